import java.util.function.Supplier;
import java.util.function.ToLongFunction;

/**
 * The bounds of FITS ('Terms', parts 1 and 2; promises 11 to 19): none, one, the first and the last of
 * them, as many as can be counted and one more, and each question that can't be asked.
 */
public final class BoundsOfFitsTest {
    private static final String WORDS = "ab 5; a 3; b 4; cab 7;";
    private static final String ONES = "i1;j1;";
    /** With two WORDS of one letter each: 2 to the 63. */
    private static final String GREAT = Due.times(51, ".") + "(12)";

    /**
     * With the WORDS of mostWords just 2 to the 63, less 1: 31833193 ways to fill the GAP, times
     * 289740712999 ways of a, b, c, d alone and aa (a continued fraction: each SIGN has so many
     * letters, and aa stands on any two).
     */
    private static final String MOST = "{24}:[abcd]aaaaaaa[ab]aaaa[abcd]a[ab]aaaaa[ab]aaaaaaaa[ab]a[abc]a[ab][ab]aaaa"
            + "[abc][abcd](0)";

    private static final long SIGNS_OF_MOST = 289740712999L;

    private static String mostWords() {
        StringBuilder words = new StringBuilder("a1;b1;c1;d1;aa3;");
        // by WIDTHS: one of 10, four of 14, one of 16, one of 18, nine of 20
        words.append("xxxxx1;xxxxxxx1;yxxxxxx1;xyxxxxx1;yyxxxxx1;xxxxxxxx1;xxxxxxxxx1;");
        for (int m = 0; m < 8; m++) {
            words.append(Due.times(m, "x")).append("mm").append(Due.times(7 - m, "x")).append("1;");
        }
        return words.append("mxxxxxxxm99;").toString();
    }

    /** In how many ways the WORDS of mostWords fill WIDTHS of 0 to 24. */
    private static long[] waysByWidth() {
        int[] wordsOfWidth = new int[25];
        wordsOfWidth[2] = 4;
        wordsOfWidth[4] = 1;
        wordsOfWidth[10] = 1;
        wordsOfWidth[14] = 4;
        wordsOfWidth[16] = 1;
        wordsOfWidth[18] = 1;
        wordsOfWidth[20] = 9;
        long[] ways = new long[25];
        ways[0] = 1;
        for (int n = 1; n < 25; n++) {
            for (int k = 1; k <= n; k++) {
                ways[n] += wordsOfWidth[k] * ways[n - k];
            }
        }
        return ways;
    }

    private static LostLetters most() {
        return Due.told(mostWords(), MOST);
    }

    private static LostLetters tooGreat() {
        return Due.told(ONES, GREAT);
    }

    /** Each kind of SIGN: 12 FITS, the GAP of letters has 1 or 2, that of WIDTH none or one. */
    private static LostLetters each() {
        return Due.told(WORDS, "a.[bz](1-2):{0-2}/");
    }

    private static LostLetters nothing() {
        return Due.told(WORDS, "z.[ab](1-2){0-2}:/");
    }

    private static LostLetters without() {
        return new LostLetters();
    }

    private static void refused(String call, Supplier<LostLetters> made, ToLongFunction<LostLetters> asked, long want) {
        Due.refused(call, made, asked, want);
    }

    /** "(An INSCRIPTION without letters has one, of no WORDS.)" */
    private static void withoutLetters() {
        for (String words : new String[] {"", WORDS}) {
            for (String text : new String[] {"", ":", "/", "::", "//", "(0)", "{0}", "(0):{0}/(00-00)"}) {
                LostLetters x = Due.told(words, text);
                x.rule(0, text.length() % 2);
                Due.due("11: one FIT of " + text, x.fits(0), 1);
                for (int what = 0; what < 3; what++) {
                    Due.due("12: no WORDS, WEIGHT, letters", Due.fit(x, 0, 0, what), 0);
                }
                Due.due("12: no first WORD", Due.fit(x, 0, 0, 10), Due.THROWS);
                Due.due("12: no second FIT", Due.fit(x, 0, 1, 0), Due.THROWS);
                Due.due("14: it is the HEAVIEST", x.heaviest(0, 0), 0);
                Due.due("14: of no WEIGHT", x.heaviest(0, 1), 0);
                Due.due("19: no SIGN is SURE", x.signs(0, 0), 0);
                Due.due("19: no SIGN is DOUBTFUL", x.signs(0, 1), 0);
                Due.due("20: no WORD is in it", x.words(0, 1), 0);
                Due.due("20: no WORD is NEEDED", x.words(0, 0), 0);
            }
        }
        LostLetters x = Due.told("", "(0-12):{0-24}");
        Due.due("11: no WORDS: GAPS of none", x.fits(0), 1);
        Due.due("13: GAPS of none", Due.fitAt(x, 0, 0, 0), 0);
        Due.due("13: GAPS of none", Due.fitAt(x, 0, 0, 2), 0);
        for (String text : new String[] {"a", ".", "[ab]", "(1)", "{1}", "(1-12)", "{1-24}", ":.:"}) {
            Due.due("11: no WORDS, but a letter: " + text, Due.told("", text).fits(0), 0);
        }
    }

    /** "so that each SIGN has its letter, each GAP its letters": from the least to the most. */
    private static void gapsFilled() {
        for (int least = 0; least <= 12; least++) {
            for (int most = least; most <= 12; most++) {
                LostLetters x = Due.told("a1;", "(" + least + "-" + most + ")");
                Due.due("11: as many as lengths", x.fits(0), most - least + 1);
                Due.due("13: the least is ahead", Due.fitAt(x, 0, 0, 0), least);
                Due.due("13: the most is the last", Due.fitAt(x, 0, most - least, 0), most);
                for (int n = 0; n <= 24; n++) {
                    Due.due("18: n letters", x.gap(0, 0, n), n >= least && n <= most ? 1 : 0);
                }
            }
        }
        for (String letter : new String[] {"i", "a", "m"}) {
            int width = letter.equals("i") ? 1 : letter.equals("a") ? 2 : 3;
            for (int least = 0; least <= 24; least += 2) {
                for (int most = least; most <= 24; most += 3) {
                    LostLetters x = Due.told(letter + "1;", "{" + least + "-" + most + "}");
                    for (int n = 0; n <= 24; n++) {
                        boolean fits = n * width >= least && n * width <= most;
                        Due.due("18: n letters of WIDTH " + width, x.gap(0, 0, n), fits ? 1 : 0);
                    }
                }
            }
        }
    }

    /** "a WORD ends where one has to, and at the end of all". */
    private static void wordsEnd() {
        Due.due("11: at the end", Due.told("abc1;", "abc").fits(0), 1);
        Due.due("11: one letter less", Due.told("abc1;", "ab").fits(0), 0);
        Due.due("11: one letter more", Due.told("abc1;", "abca").fits(0), 0);
        Due.due("11: at a mark", Due.told("abc1;", "abc:abc").fits(0), 1);
        Due.due("11: a mark ahead of it", Due.told("abc1;", "ab:cabc").fits(0), 0);
        Due.due("11: a mark behind it", Due.told("abc1;", "abca:bc").fits(0), 0);
        Due.due("11: marks at both ends", Due.told("abc1;", ":abc:").fits(0), 1);
        for (String text : new String[] {"ab/cabc", "abca/bc", "a/b/cabc"}) {
            LostLetters x = Due.told("abc1;", text);
            Due.due("11: over the end of a LINE", x.fits(0), 1);
            x.rule(0, 0);
            Due.due("11: a WORD ends at each", x.fits(0), 0);
        }
        LostLetters x = Due.told("abc1;", "abc/abc/");
        Due.due("11: at the end of a LINE", x.fits(0), 1);
        x.rule(0, 0);
        Due.due("11: at the end of a LINE", x.fits(0), 1);
    }

    /** "FITS of more than 2 to the 63, less 1, are TOO GREAT": just so many are not. */
    private static void asManyAsCanBe() {
        LostLetters x = most();
        Due.due("11: 2 to the 63, less 1", x.fits(0), Long.MAX_VALUE);
        Due.due("12: all a: 12 in the GAP, 42 SIGNS", Due.fit(x, 0, 0, 0), 54);
        Due.due("12: their WEIGHT", Due.fit(x, 0, 0, 1), 54);
        long last = Long.MAX_VALUE - 1;
        Due.due("12: the last: the last WORD, aa, and aa 21 times", Due.fit(x, 0, last, 0), 23);
        Due.due("12: its WEIGHT", Due.fit(x, 0, last, 1), 99 + 22 * 3);
        Due.due("12: its letters", Due.fit(x, 0, last, 2), 9 + 2 + 42);
        Due.due("12: its first WORD", Due.fit(x, 0, last, 10), 20);
        Due.due("12: its last WORD", Due.fit(x, 0, last, 32), 4);
        Due.due("12: behind its last WORD", Due.fit(x, 0, last, 33), Due.THROWS);
        Due.due("12: behind the last", Due.fit(x, 0, Long.MAX_VALUE, 0), Due.THROWS);
        Due.due("13: letters of the GAP", Due.fitAt(x, 0, last, 0), 11);
        Due.due("13: the last SIGN's letter", Due.fitAt(x, 0, last, 43), 0);
        Due.due("13: behind the last", Due.fitAt(x, 0, Long.MAX_VALUE, 0), Due.THROWS);
        // aa and the last WORD weigh as much as these the other way round: ahead are all that begin with a,
        // b, c, d, or with aa and another one, and behind them all others of the SIGNS
        long[] ways = waysByWidth();
        Due.due("11: as the text of this test says", ways[24] * SIGNS_OF_MOST, Long.MAX_VALUE);
        Due.due("14: the HEAVIEST", x.heaviest(0, 0), (4 * ways[22] + ways[20]) * SIGNS_OF_MOST - 1);
        Due.due("14: its WEIGHT", x.heaviest(0, 1), 99 + 22 * 3);
        Due.due("15: letters", x.letters(0, 2), 15);
        Due.due("16: a SIGN that is READ", x.by(0, 3, 0), Long.MAX_VALUE);
        Due.due("16: another letter", x.by(0, 3, 1), 0);
        Due.due("17: a SIGN that is READ", x.share(0, 3, 0), Float.floatToIntBits(1f));
        Due.due("18: a GAP of none", x.gap(0, 1, 0), Long.MAX_VALUE);
        Due.due("18: a GAP of none", x.gap(0, 1, 1), 0);
        long traces = 0;
        for (int s = 2; s < 44; s++) {
            if (x.sign(0, s, 0) == 2) {
                traces |= 1L << s;
            }
        }
        Due.due("19: SURE", x.signs(0, 0), ((1L << 44) - 4) & ~traces);
        Due.due("19: DOUBTFUL", x.signs(0, 1), traces);
        Due.due("19: restored", x.signs(0, 2), 0);
        Due.due("20: NEEDED", x.words(0, 0), 0);
        Due.due("20: in some FIT", x.words(0, 1), (1L << 21) - 1);
    }

    /** The same, by sums, and what is asked of it. */
    private static void sumsOfAsMany() {
        LostLetters x = most();
        int asked = -1;
        long fewest = 0;
        for (int s = 2; s < 44; s++) {
            long all = 0;
            long greatest = 0;
            for (int c = 0; c < 4; c++) {
                long by = x.by(0, s, c);
                all += by;
                greatest = Math.max(greatest, by);
            }
            Due.due("16: all letters together", all, Long.MAX_VALUE);
            if (x.sign(0, s, 0) == 2 && (asked < 0 || greatest < fewest)) {
                asked = s;
                fewest = greatest;
            }
        }
        Due.due("23: ASK", x.ask(0), asked);
        Due.due("22: READ as it is", x.would(0, 3, 0), Long.MAX_VALUE);
        Due.due("22: a TRACE", x.would(0, 2, 3), x.by(0, 2, 3));
        Due.due("22: just so many would be", Due.told(mostWords(), "z:" + MOST).would(0, 0, 3), Long.MAX_VALUE);
        LostLetters twice = Due.told(mostWords(), "[ab]:z:" + MOST.substring(0, 88));
        Due.due("22: twice as many would be", twice.would(0, 2, 3), -2);
        long all = 0;
        for (int n = 0; n <= 24; n++) {
            all += x.gap(0, 0, n);
        }
        Due.due("18: all lengths together", all, Long.MAX_VALUE);
        Due.dueRestored(x, 0, "(?):.aaaaaaa.aaaa.a.aaaaa.aaaaaaaa.a.a..aaaa..(0)");
    }

    /** ".. are TOO GREAT: -2 (of whichever question that counts them, of all of that INSCRIPTION)": one more. */
    private static void oneMore() {
        Supplier<LostLetters> great = BoundsOfFitsTest::tooGreat;
        refused("11: 2 to the 63", great, x -> x.fits(0), -2);
        for (int what : new int[] {0, 1, 2, 10}) {
            refused("12: TOO GREAT", great, x -> Due.fit(x, 0, 0, what), Due.THROWS);
        }
        refused("13: TOO GREAT", great, x -> Due.fitAt(x, 0, 0, 0), Due.THROWS);
        refused("13: TOO GREAT", great, x -> Due.fitAt(x, 0, 0, 51), Due.THROWS);
        for (int w = 0; w < 3; w++) {
            int what = w;
            refused("14: TOO GREAT, what " + what, great, x -> x.heaviest(0, what), what < 2 ? -2 : -1);
            refused("19: TOO GREAT", great, x -> x.signs(0, what), -2);
            refused("20: TOO GREAT, what " + what, great, x -> x.words(0, what), what < 2 ? -2 : -1);
        }
        refused("15: TOO GREAT", great, x -> x.letters(0, 0), -2);
        refused("16: TOO GREAT, half of them", great, x -> x.by(0, 0, 8), -2);
        refused("16: TOO GREAT, none of them", great, x -> x.by(0, 0, 0), -2);
        refused("17: TOO GREAT", great, x -> x.share(0, 0, 8), -2);
        refused("17: TOO GREAT, none of them", great, x -> x.share(0, 0, 0), -2);
        refused("18: TOO GREAT", great, x -> x.gap(0, 0, 12), -2);
        refused("18: TOO GREAT, none of them", great, x -> x.gap(0, 0, 24), -2);
        refused("23: TOO GREAT", great, x -> x.ask(0), -2);
        refused("25: TOO GREAT", great, x -> x.restored(0, 0), -2);
        LostLetters x = tooGreat();
        Due.due("12: TOO GREAT, whichever k", Due.fit(x, 0, Long.MAX_VALUE, 0), Due.THROWS);
        Due.due("21: nothing is counted: REACH", x.stuck(0, 0), 52);
        Due.due("21: nothing is counted: WHY", x.stuck(0, 1), 0);
        Due.due("24: nothing is counted", x.wrong(0, -1), 0);
        Due.due("7: one SIGN READ", x.reads(0, 0, 8), true);
        Due.due("11: half of them", x.fits(0), 1L << 62);
        Due.due("12: half of them: the last", Due.fit(x, 0, (1L << 62) - 1, 72), 1);
        Due.due("8: LOST again", x.loses(0, 0), true);
        Due.due("11: TOO GREAT again", x.fits(0), -2);
        Due.due("11: others are not", x.fits(1), 1);
    }

    /** Far more than can be counted, and a count that would come round to what can be. */
    private static void farMore() {
        Due.due("11: 2 to the 64", Due.told(ONES, "." + GREAT).fits(0), -2);
        Due.due("11: 2 to the 65", Due.told(ONES, ".." + GREAT).fits(0), -2);
        Due.due("11: 2 to the 126", Due.told(ONES, "(12)(12)(12)(12)(12)(12)" + Due.times(54, ".")).fits(0), -2);
        Due.due("11: 2 to the 198", Due.told(ONES, Due.times(6, "{24}") + Due.times(54, ".")).fits(0), -2);
        // one choice is TOO GREAT, another one is not: ahead of it and behind it
        for (String words : new String[] {"kz1;i1;j1;", "i1;j1;kz1;", "i1;kz1;j1;"}) {
            Due.due("11: a great part and a less", Due.told(words, "." + GREAT).fits(0), -2);
            Due.due("11: a great part and a less", Due.told(words, "(0-1)" + GREAT.substring(1)).fits(0), -2);
        }
        Due.due("11: a great part alone is none", Due.told(ONES, "." + GREAT + "z").fits(0), 0);
        Due.due("11: behind what nothing FITS", Due.told(ONES, "z." + GREAT).fits(0), 0);
        Due.due("11: at a mark within", Due.told("ij1;i1;j1;", Due.times(52, ".") + "(12)" + ":z").fits(0), 0);
    }

    /** "How many FITS; NONE: others." */
    private static void others() {
        for (int i : Due.noInscriptions()) {
            for (Supplier<LostLetters> made : java.util.List.<Supplier<LostLetters>>of(
                    BoundsOfFitsTest::each, BoundsOfFitsTest::nothing, BoundsOfFitsTest::without)) {
                refused("11: INSCRIPTION " + i, made, x -> x.fits(i), -1);
                refused("12: INSCRIPTION " + i, made, x -> Due.fit(x, i, 0, 0), Due.THROWS);
                refused("13: INSCRIPTION " + i, made, x -> Due.fitAt(x, i, 0, 0), Due.THROWS);
                refused("14: INSCRIPTION " + i, made, x -> x.heaviest(i, 0), -1);
                refused("15: INSCRIPTION " + i, made, x -> x.letters(i, 0), -1);
                refused("16: INSCRIPTION " + i, made, x -> x.by(i, 0, 0), -1);
                refused("17: INSCRIPTION " + i, made, x -> x.share(i, 0, 0), -1);
                refused("18: INSCRIPTION " + i, made, x -> x.gap(i, 0, 0), -1);
                refused("19: INSCRIPTION " + i, made, x -> x.signs(i, 0), -1);
            }
        }
        for (int i = 0; i < 3; i++) {
            Due.due("11: each has its own", each().fits(i), i == 0 ? each().fits(0) : 1);
        }
    }

    /** "Of FIT k (0 the first ..), what 0 .. 10 and on: its WORDS; NoSuchElementException: others, none such". */
    private static void theKth() {
        LostLetters x = each();
        int all = (int) x.fits(0);
        Due.due("12: the first", Due.fit(x, 0, 0, 10), 0);
        Due.due("12: the last has one", Due.fit(x, 0, all - 1, 10) >= 0, true);
        for (long k : new long[] {-1, all, all + 1, 1L << 32, -1L << 32, Long.MIN_VALUE, Long.MAX_VALUE}) {
            for (int what : new int[] {0, 1, 2, 10}) {
                refused("12: FIT " + k, BoundsOfFitsTest::each, y -> Due.fit(y, 0, k, what), Due.THROWS);
            }
            refused("13: FIT " + k, BoundsOfFitsTest::each, y -> Due.fitAt(y, 0, k, 0), Due.THROWS);
        }
        for (long k : new long[] {0, all - 1}) {
            int words = (int) Due.fit(each(), 0, k, 0);
            for (int what : new int[] {0, 1, 2, 10, 10 + words - 1}) {
                Due.due("12: what " + what, Due.fit(each(), 0, k, what) >= 0, true);
            }
            int[] none = {-1, 3, 4, 9, 10 + words, 11 + words, Integer.MIN_VALUE, Integer.MIN_VALUE + 9,
                Integer.MAX_VALUE};
            for (int what : none) {
                refused("12: what " + what, BoundsOfFitsTest::each, y -> Due.fit(y, 0, k, what), Due.THROWS);
            }
            for (int sign : new int[] {0, 1, 2, 3, 5}) {
                Due.due("13: SIGN " + sign, Due.fitAt(each(), 0, k, sign) >= 0, true);
            }
            for (int sign : new int[] {-1, 4, 6, 7, 8, 59, 60, Integer.MIN_VALUE, Integer.MAX_VALUE}) {
                refused("13: marks, none: " + sign, BoundsOfFitsTest::each, y -> Due.fitAt(y, 0, k, sign), Due.THROWS);
            }
        }
        for (int what : new int[] {0, 1, 2, 10}) {
            refused("12: nothing FITS", BoundsOfFitsTest::nothing, y -> Due.fit(y, 0, 0, what), Due.THROWS);
        }
        for (int sign = 0; sign < 7; sign++) {
            int s = sign;
            refused("13: nothing FITS", BoundsOfFitsTest::nothing, y -> Due.fitAt(y, 0, 0, s), Due.THROWS);
        }
        refused("13: no SIGNS", BoundsOfFitsTest::without, y -> Due.fitAt(y, 0, 0, 0), Due.THROWS);
    }

    /** The FIT of most WORDS: 198 of one letter each. */
    private static void theLongest() {
        LostLetters x = Due.told("i99;", Due.times(6, "{24}") + Due.times(54, "."));
        Due.due("12: WORDS", Due.fit(x, 0, 0, 0), 198);
        Due.due("12: WEIGHT", Due.fit(x, 0, 0, 1), 99 * 198);
        Due.due("12: letters", Due.fit(x, 0, 0, 2), 198);
        Due.due("12: the last WORD", Due.fit(x, 0, 0, 207), 0);
        Due.due("12: behind the last WORD", Due.fit(x, 0, 0, 208), Due.THROWS);
        Due.due("13: the last SIGN", Due.fitAt(x, 0, 0, 59), 8);
        Due.due("13: no 61st", Due.fitAt(x, 0, 0, 60), Due.THROWS);
        Due.due("14: WEIGHT", x.heaviest(0, 1), 99 * 198);
        Due.due("18: the last GAP", x.gap(0, 5, 24), 1);
        Due.due("18: no seventh GAP", x.gap(0, 6, 24), -1);
        Due.due("19: 60 SIGNS, six GAPS", x.signs(0, 2), (1L << 60) - 64);
    }

    /** "Which FIT the HEAVIEST is ..; NONE: others, nothing FITS"; "of several the first in ORDER". */
    private static void theHeaviest() {
        LostLetters x = Due.told("ab 5; a 2; b 3; c 9;", "a.");
        Due.due("14: a c, behind ab, a a, a b", x.heaviest(0, 0), 3);
        Due.due("14: its WEIGHT", x.heaviest(0, 1), 11);
        x = Due.told("ab 5; a 2; b 3;", "ab");
        Due.due("14: of two equal ones the first", x.heaviest(0, 0), 0);
        Due.due("14: of two equal ones", x.heaviest(0, 1), 5);
        x = Due.told("ab 5; a 2; b 4;", "ab");
        Due.due("14: the second, heavier by one", x.heaviest(0, 0), 1);
        x = Due.told("a 2; b 3; ab 5;", "ab");
        Due.due("14: of two equal ones the first", x.heaviest(0, 0), 0);
        x = Due.told("a 2; b 3; ab 6;", "ab");
        Due.due("14: the second, heavier by one", x.heaviest(0, 0), 1);
        for (int w : new int[] {-1, 2, 3, 10, Integer.MIN_VALUE, Integer.MAX_VALUE}) {
            refused("14: what " + w, BoundsOfFitsTest::each, y -> y.heaviest(0, w), -1);
            refused("14: what " + w, BoundsOfFitsTest::nothing, y -> y.heaviest(0, w), -1);
            refused("14: what " + w, BoundsOfFitsTest::tooGreat, y -> y.heaviest(0, w), -1);
        }
        refused("14: nothing FITS", BoundsOfFitsTest::nothing, y -> y.heaviest(0, 0), -1);
        refused("14: nothing FITS", BoundsOfFitsTest::nothing, y -> y.heaviest(0, 1), -1);
    }

    /** "NONE: others, GAPS, marks", of letters, by and share; a letter is 0 to 25. */
    private static void lettersAt() {
        Supplier<LostLetters> each = BoundsOfFitsTest::each;
        for (int s : new int[] {-1, 3, 4, 5, 6, 7, 59, 60, Integer.MIN_VALUE, Integer.MAX_VALUE}) {
            refused("15: GAPS, marks, none: " + s, each, x -> x.letters(0, s), -1);
            refused("16: GAPS, marks, none: " + s, each, x -> x.by(0, s, 0), -1);
            refused("17: GAPS, marks, none: " + s, each, x -> x.share(0, s, 0), -1);
            refused("15: nothing FITS: " + s, BoundsOfFitsTest::nothing, x -> x.letters(0, s), -1);
            refused("16: nothing FITS: " + s, BoundsOfFitsTest::nothing, x -> x.by(0, s, 0), -1);
        }
        for (int c : new int[] {-1, 26, 27, 32, Integer.MIN_VALUE, Integer.MAX_VALUE}) {
            for (int sign = 0; sign < 3; sign++) {
                int s = sign;
                refused("16: letter " + c, each, x -> x.by(0, s, c), -1);
                refused("17: letter " + c, each, x -> x.share(0, s, c), -1);
                refused("16: letter " + c, BoundsOfFitsTest::nothing, x -> x.by(0, s, c), -1);
            }
        }
        for (int s = 0; s < 3; s++) {
            Due.due("15: nothing FITS", nothing().letters(0, s), 0);
            Due.due("16: nothing FITS", nothing().by(0, s, 0), 0);
            Due.due("16: nothing FITS", nothing().by(0, s, 25), 0);
            Due.due("17: nothing FITS", nothing().share(0, s, 0), -1);
            Due.due("17: nothing FITS", nothing().share(0, s, 25), -1);
        }
        LostLetters x = Due.told("a1;z1;", "." + Due.times(58, "a") + "[yz]");
        Due.due("15: the first SIGN", x.letters(0, 0), 1 | 1 << 25);
        Due.due("15: the 60th", x.letters(0, 59), 1 << 25);
        Due.due("16: the letter 0", x.by(0, 0, 0), 1);
        Due.due("16: the letter 25", x.by(0, 59, 25), 2);
        Due.due("16: a letter that no FIT has", x.by(0, 59, 24), 0);
        Due.due("17: the letter 0", x.share(0, 0, 0), Float.floatToIntBits(0.5f));
        Due.due("17: the letter 25", x.share(0, 59, 25), Float.floatToIntBits(1f));
        Due.due("17: a letter that no FIT has", x.share(0, 59, 24), 0);
    }

    /** "as single-precision floats": both are rounded ahead of the division. */
    private static void shares() {
        // 2 to the 24 and 1 is the first number that a float has not
        for (int dots = 22; dots < 26; dots++) {
            LostLetters x = Due.told("i1;j1;l" + Due.times(7, "z") + "1;", Due.times(dots, "."));
            long all = x.fits(0);
            for (int s = 0; s < dots; s++) {
                for (int c : new int[] {8, 9, 11, 25, 0}) {
                    float want = (float) x.by(0, s, c) / (float) all;
                    Due.due("17: share", x.share(0, s, c), Float.floatToIntBits(want));
                }
            }
        }
        LostLetters x = Due.told("i1;j1;ab1;", Due.times(49, "."));
        long great = x.fits(0);
        Due.due("17: great numbers", great > 1L << 61, true);
        for (int s = 0; s < 49; s++) {
            for (int c : new int[] {0, 1, 8, 9}) {
                Due.due("17: great numbers", x.share(0, s, c),
                        Float.floatToIntBits((float) x.by(0, s, c) / (float) great));
            }
        }
        // one FIT of many: the least share but 0
        x = Due.told("i1;j1;zzzzzzzzz1;", "z" + Due.times(8, "."));
        Due.due("17: the only one", x.share(0, 0, 25), Float.floatToIntBits(1f));
        x = Due.told("i1;j1;zzzzzzzzz1;", Due.times(9, "[iz]") + Due.times(44, "j"));
        Due.due("17: one of two", x.share(0, 0, 25), Float.floatToIntBits(0.5f));
        x = Due.told("i1;j1;zzzzzzzzz1;", Due.times(9, "."));
        Due.due("17: one of 513", x.share(0, 0, 25), Float.floatToIntBits(1f / 513f));
        StringBuilder words = new StringBuilder("zzzzzzzzz1;");
        for (char c = 'a'; c < 'z'; c++) {
            words.append(c).append("1;");
        }
        x = Due.told(words.toString(), Due.times(9, "."));
        Due.due("17: one of 25 to the 9 and one more", x.fits(0), 3814697265626L);
        Due.due("17: one of these", x.share(0, 8, 25), Float.floatToIntBits(1f / 3814697265626f));
        Due.due("17: one in 25 of these", x.share(0, 8, 24), Float.floatToIntBits(152587890625f / 3814697265626f));
    }

    /** "In how many FITS GAP g (among GAPS) has n letters; NONE: others (n 0 to 24)". */
    private static void gaps() {
        Supplier<LostLetters> each = BoundsOfFitsTest::each;
        Due.due("18: n 0", each().gap(0, 1, 0) > 0, true);
        Due.due("18: n 24", each().gap(0, 1, 24), 0);
        Due.due("18: n 24 of letters", each().gap(0, 0, 24), 0);
        Due.due("18: the least", each().gap(0, 0, 1) > 0, true);
        Due.due("18: below the least", each().gap(0, 0, 0), 0);
        Due.due("18: the most", each().gap(0, 0, 2) > 0, true);
        Due.due("18: above the most", each().gap(0, 0, 3), 0);
        for (int n : new int[] {-1, 25, 26, Integer.MIN_VALUE, Integer.MAX_VALUE}) {
            refused("18: n " + n, each, x -> x.gap(0, 0, n), -1);
            refused("18: n " + n, each, x -> x.gap(0, 1, n), -1);
            refused("18: n " + n, BoundsOfFitsTest::tooGreat, x -> x.gap(0, 0, n), -1);
        }
        for (int g : new int[] {-1, 2, 3, 5, 6, Integer.MIN_VALUE, Integer.MAX_VALUE}) {
            refused("18: GAP " + g, each, x -> x.gap(0, g, 0), -1);
            refused("18: GAP " + g, BoundsOfFitsTest::nothing, x -> x.gap(0, g, 0), -1);
            refused("18: no GAPS: " + g, BoundsOfFitsTest::without, x -> x.gap(0, g, 0), -1);
        }
        for (int n = 0; n <= 24; n++) {
            Due.due("18: nothing FITS", nothing().gap(0, 0, n), 0);
            Due.due("18: nothing FITS", nothing().gap(0, 1, n), 0);
        }
        LostLetters x = Due.told("i1;", "{24}a");
        Due.due("18: nothing FITS, though it could end", x.gap(0, 0, 24), 0);
        x = Due.told("i1;", "{24}i");
        Due.due("18: 24", x.gap(0, 0, 24), 1);
        Due.due("18: not 23", x.gap(0, 0, 23), 0);
    }

    /** "SURE is a SIGN .., if it has one letter in all FITS, and there are some; DOUBTFUL, if it has several." */
    private static void sureOrDoubtful() {
        LostLetters x = Due.told("ab1;ac1;", "..");
        Due.due("19: SURE", x.signs(0, 0), 0b01);
        Due.due("19: DOUBTFUL: two letters", x.signs(0, 1), 0b10);
        Due.due("19: restored", x.signs(0, 2), 0b01);
        x = Due.told("ab1;ac1;", "a[bz]");
        Due.due("19: one letter of a TRACE", x.signs(0, 0), 0b11);
        Due.due("19: none is DOUBTFUL", x.signs(0, 1), 0);
        Due.due("19: but not READ", x.signs(0, 2), 0b10);
        x = Due.told("ab1;ac1;", "a[bc]");
        Due.due("19: two letters of a TRACE", x.signs(0, 0), 0b01);
        Due.due("19: two letters of a TRACE", x.signs(0, 1), 0b10);
        x = Due.told("ab1;ac1;", "a[bc](1)");
        for (int what = 0; what < 3; what++) {
            Due.due("19: nothing FITS: neither", x.signs(0, what), 0);
            Due.due("19: no SIGNS", without().signs(0, what), 0);
        }
        for (int w : new int[] {-1, 3, 4, Integer.MIN_VALUE, Integer.MAX_VALUE}) {
            refused("19: what " + w, BoundsOfFitsTest::each, y -> y.signs(0, w), -1);
            refused("19: what " + w, BoundsOfFitsTest::nothing, y -> y.signs(0, w), -1);
            refused("19: what " + w, BoundsOfFitsTest::tooGreat, y -> y.signs(0, w), -1);
        }
        x = Due.told("a1;b1;", Due.times(58, "a") + "..");
        Due.due("19: the 60th is DOUBTFUL", x.signs(0, 1), 3L << 58);
        Due.due("19: the first 58 are SURE", x.signs(0, 0), (1L << 58) - 1);
    }

    /** A call that changes something changes the answers at once, one that is refused does not. */
    private static void changes() {
        LostLetters x = Due.told("ab1;a1;b1;", "a/b");
        Due.due("11: two", x.fits(0), 2);
        x.rule(0, 2);
        Due.due("6: refused", x.fits(0), 2);
        x.rule(0, 0);
        Due.due("6: taken", x.fits(0), 1);
        x.reads(0, 2, 0);
        Due.due("7: refused", x.letters(0, 2), 2);
        x.loses(0, 2);
        Due.due("8: taken", x.letters(0, 2), 3);
        x.loses(0, 2);
        Due.due("8: refused", x.letters(0, 2), 3);
        x.reads(0, 2, 0);
        Due.due("7: taken", x.letters(0, 2), 1);
        Due.list(x, "b");
        Due.due("4: refused", x.fits(0), 1);
        Due.list(x, "b1;");
        Due.due("4: taken", x.fits(0), 0);
        Due.inscribe(x, 0, "b.A");
        Due.due("5: refused", x.fits(0), 0);
        Due.inscribe(x, 0, "b.");
        Due.due("5: taken", x.fits(0), 1);
        x.copy(0, 0);
        x.copy(3, 0);
        Due.due("26: refused", x.signs(0, 0), 3);
        x.copy(1, 0);
        Due.due("26: taken", x.signs(0, 0), 0);
    }

    /** "An object is used for at most 512 calls": the 512th is answered as the first. */
    private static void manyCalls() {
        LostLetters x = Due.told(WORDS, "a.[bz](1-2):{0-2}/");
        long all = x.fits(0);
        for (int turn = 0; turn < 80; turn++) {
            x.loses(0, 2);
            x.reads(0, 2, 1);
            Due.due("11: turn " + turn, x.fits(0), all);
            Due.due("16: turn " + turn, x.by(0, 0, 0), all);
            Due.due("14: turn " + turn, x.heaviest(0, 0) >= 0, true);
        }
        for (int turn = 0; turn < 20; turn++) {
            x.copy(0, 1);
            Due.due("11: the other one", x.fits(1), all);
            x.rule(1, 0);
            x.inscribe(1);
            Due.due("11: the other one", x.fits(1), 1);
        }
    }

    public static void main(String[] args) {
        withoutLetters();
        gapsFilled();
        wordsEnd();
        asManyAsCanBe();
        sumsOfAsMany();
        oneMore();
        farMore();
        others();
        theKth();
        theLongest();
        theHeaviest();
        lettersAt();
        shares();
        gaps();
        sureOrDoubtful();
        changes();
        manyCalls();
        Due.finish("BoundsOfFitsTest");
    }
}
