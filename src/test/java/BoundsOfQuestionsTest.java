import java.util.function.Supplier;

/**
 * The bounds of NEEDED, REACH and WHY, what would be, ASK, WRONG and what is restored ('Terms', part 2;
 * promises 20 to 25): where the answer turns, where there is none, and each question that can't be asked.
 */
public final class BoundsOfQuestionsTest {
    private static final String WORDS = "ab 5; a 3; b 4; cab 7;";
    private static final String ONES = "i1;j1;";
    /** With two WORDS of one letter each: 2 to the 63. */
    private static final String GREAT = Due.times(51, ".") + "(12)";
    private static final int[] NO_WHAT = {-1, 3, 4, 10, Integer.MIN_VALUE, Integer.MAX_VALUE};

    private static LostLetters tooGreat() {
        return Due.told(ONES, GREAT);
    }

    private static LostLetters each() {
        return Due.told(WORDS, "a.[bz](1-2):{0-2}/");
    }

    private static LostLetters nothing() {
        return Due.told(WORDS, "z.[ab](1-2){0-2}:/");
    }

    private static LostLetters without() {
        return new LostLetters();
    }

    /** "NEEDED: a WORD without which (it being away) nothing FITS, though something does with it." */
    private static void needed() {
        LostLetters x = Due.told("ab1;a1;b1;", "ab");
        Due.due("20: each can be away", x.words(0, 0), 0);
        Due.due("20: all are in some", x.words(0, 1), 0b111);
        x = Due.told("ab1;a1;c1;", "ab");
        Due.due("20: the only one", x.words(0, 0), 0b001);
        Due.due("20: the others are in none", x.words(0, 1), 0b001);
        x = Due.told("ab1;a1;b1;", "abb");
        Due.due("20: behind ab and behind a", x.words(0, 0), 0b100);
        x = Due.told("ab1;a1;b1;", "abbz");
        Due.due("20: nothing FITS with it", x.words(0, 0), 0);
        Due.due("20: nothing FITS", x.words(0, 1), 0);
        x = Due.told("a1;", "(0-1)");
        Due.due("20: something FITS without it", x.words(0, 0), 0);
        Due.due("20: it is in some", x.words(0, 1), 1);
        x = Due.told("a1;", "(1)");
        Due.due("20: NEEDED", x.words(0, 0), 1);
        Due.due("20: no WORDS", Due.told("", "").words(0, 0), 0);
        Due.due("20: no WORDS", Due.told("", "").words(0, 1), 0);
        Due.due("20: no SIGNS", Due.told(WORDS, "").words(0, 1), 0);
        x = Due.told(Due.words(40), "aa:bn");
        Due.due("20: the first and the 40th", x.words(0, 0), 1L | 1L << 39);
        Due.due("20: the first and the 40th", x.words(0, 1), 1L | 1L << 39);
        x = Due.told(Due.words(40), "(2)");
        Due.due("20: none of 40", x.words(0, 0), 0);
        Due.due("20: all 40", x.words(0, 1), (1L << 40) - 1);
    }

    /** "NONE: others; -2: TOO GREAT." */
    private static void wordsRefused() {
        for (int w : NO_WHAT) {
            Due.refused("20: what " + w, BoundsOfQuestionsTest::each, x -> x.words(0, w), -1);
            Due.refused("20: what " + w, BoundsOfQuestionsTest::nothing, x -> x.words(0, w), -1);
            Due.refused("20: what " + w, BoundsOfQuestionsTest::tooGreat, x -> x.words(0, w), -1);
        }
        for (int w = 0; w < 3; w++) {
            int what = w;
            for (int i : Due.noInscriptions()) {
                Due.refused("20: INSCRIPTION " + i, BoundsOfQuestionsTest::each, x -> x.words(i, what), -1);
            }
            Due.due("20: TOO GREAT, what " + what, tooGreat().words(0, what), what < 2 ? -2 : -1);
        }
        LostLetters x = Due.told(ONES, GREAT.substring(1));
        Due.due("20: half of TOO GREAT", x.words(0, 0), 0);
        Due.due("20: half of TOO GREAT", x.words(0, 1), 3);
    }

    private static void stuck(String words, String text, int reach, int why, String could) {
        stuck(Due.told(words, text), text, reach, why, could);
    }

    private static void stuck(LostLetters x, String text, int reach, int why, String could) {
        Due.due("21: REACH of " + text, x.stuck(0, 0), reach);
        Due.due("21: WHY of " + text, x.stuck(0, 1), why);
        Due.due("21: what could be there of " + text, x.stuck(0, 2), Due.bits(could));
    }

    /** "the most SIGNS that can be gone through, from the first on": none, all but one, all. */
    private static void reach() {
        stuck("abc1;", "", 0, 0, "");
        stuck("", "", 0, 0, "");
        stuck("", ".", 0, 1, "");
        stuck("", "::", 2, 0, "");
        stuck("", "::(0).", 3, 1, "");
        stuck("abc1;", "z", 0, 1, "a");
        stuck("abc1;", "abc", 3, 0, "");
        stuck("abc1;", "abz", 2, 1, "c");
        stuck("abc1;", "ab", 2, 2, "c");
        // of two ways the one that goes on further
        stuck("abc1;ab1;", "abab", 4, 0, "");
        stuck("abcz1;ab1;c1;", "abcx", 3, 1, "acz");
        stuck("a1;", Due.times(59, "a") + "b", 59, 1, "a");
        stuck("aa1;", Due.times(59, "a"), 59, 2, "a");
        stuck("aa1;", Due.times(60, "a"), 60, 0, "");
        stuck("aaaaaaaaa1;", Due.times(60, "."), 60, 2, "a");
    }

    /** "WHY: 1 a letter that no WORD has there". */
    private static void whyLetters() {
        stuck("abc1;", "a.", 2, 2, "c");
        stuck("abc1;", "a[cd]", 1, 1, "b");
        stuck("abc1;", "a[bc]c", 3, 0, "");
        stuck("abc1;", "a[bc]d", 2, 1, "c");
        stuck("abc1;", "abc.z", 4, 1, "b");
        stuck("abc1;abd1;", "abe", 2, 1, "cd");
        stuck("ab1;abd1;", "abe", 2, 1, "ad");
    }

    /** "2 a mark, a LINE, the end, but within a WORD"; "marks when the WORD ends where it has to". */
    private static void whyMarks() {
        stuck("abc1;", "ab:c", 2, 2, "c");
        stuck("abc1;", "abc:", 4, 0, "");
        stuck("abc1;", "abc:a", 5, 2, "b");
        stuck("abc1;ab1;", "ab:c", 3, 1, "a");
        stuck("abc1;", "ab/c", 4, 0, "");
        LostLetters x = Due.told("abc1;", "ab/c");
        x.rule(0, 0);
        stuck(x, "ab/c, RULE 0", 2, 2, "c");
        x.rule(0, 1);
        stuck(x, "ab/c, RULE 1", 4, 0, "");
        x = Due.told("abc1;", "abc/z");
        x.rule(0, 0);
        stuck(x, "abc/z, RULE 0", 4, 1, "a");
        stuck("abc1;", "ab/", 3, 2, "c");
    }

    /** "3 a GAP that can't be filled. (.. just if it can end.)"; "a GAP when it ends". */
    private static void whyGaps() {
        stuck("", "(1)", 0, 3, "");
        stuck("", "{1}", 0, 3, "");
        stuck("a1;", "{1}", 0, 3, "a");
        stuck("a1;", "{1-2}", 1, 0, "");
        stuck("m1;", "{1-2}", 0, 3, "m");
        stuck("m1;", "{0-2}", 1, 0, "");
        stuck("m1;", "{0-2}m", 2, 0, "");
        stuck("abc1;", "a{1}", 1, 3, "b");
        stuck("abc1;", "a{3}c", 1, 3, "b");
        stuck("abc1;", "a{2}c", 3, 0, "");
        stuck("abc1;", "a{4}z", 2, 1, "a");
        stuck("abc1;", "a{4}a", 3, 2, "b");
        // it can end, though what is behind it can't go on
        stuck("abc1;", "(1):", 1, 2, "b");
        stuck("abc1;", "(1-2):", 1, 2, "bc");
        stuck("abc1;", "(1-3):", 2, 0, "");
        stuck("abc1;", "(2)(0)z", 2, 1, "c");
        stuck("abc1;", "(0)z", 1, 1, "a");
        stuck("abc1;", "(12)(12)(12)(12)(12)(11)", 6, 2, "c");
        stuck("abc1;", "(12)(12)(12)(12)(12)(12)", 6, 0, "");
        stuck("abc1;", "(0-12)z", 1, 1, "abc");
    }

    /** "NONE: others", and what is TOO GREAT goes all the way. */
    private static void stuckRefused() {
        for (int w : NO_WHAT) {
            Due.refused("21: what " + w, BoundsOfQuestionsTest::each, x -> x.stuck(0, w), -1);
            Due.refused("21: what " + w, BoundsOfQuestionsTest::nothing, x -> x.stuck(0, w), -1);
        }
        for (int i : Due.noInscriptions()) {
            for (int w = 0; w < 3; w++) {
                int what = w;
                Due.refused("21: INSCRIPTION " + i, BoundsOfQuestionsTest::nothing, x -> x.stuck(i, what), -1);
            }
        }
        stuck(ONES, GREAT, 52, 0, "");
        stuck(ONES, GREAT + "z", 52, 1, "ij");
        stuck(ONES, "." + GREAT + "z", 53, 1, "ij");
        stuck("ij1;ji1;", Due.times(52, ".") + "(11)", 53, 2, "ij");
        stuck(ONES, Due.times(6, "{24}") + Due.times(53, ".") + "z", 59, 1, "ij");
    }

    /** "How many FITS there would be, were a SIGN (LOST, a TRACE, READ) a letter; NONE: others". */
    private static void would() {
        Supplier<LostLetters> each = BoundsOfQuestionsTest::each;
        for (int s : new int[] {-1, 3, 4, 5, 6, 7, 59, 60, Integer.MIN_VALUE, Integer.MAX_VALUE}) {
            Due.refused("22: GAPS, marks, none: " + s, each, x -> x.would(0, s, 0), -1);
            Due.refused("22: GAPS, marks, none: " + s, BoundsOfQuestionsTest::without, x -> x.would(0, s, 0), -1);
        }
        for (int c : new int[] {-1, 26, 27, 32, Integer.MIN_VALUE, Integer.MAX_VALUE}) {
            for (int sign = 0; sign < 3; sign++) {
                int s = sign;
                Due.refused("22: letter " + c, each, x -> x.would(0, s, c), -1);
            }
            Due.refused("22: letter " + c, BoundsOfQuestionsTest::tooGreat, x -> x.would(0, 0, c), -1);
        }
        for (int i : Due.noInscriptions()) {
            Due.refused("22: INSCRIPTION " + i, each, x -> x.would(i, 0, 0), -1);
        }
        LostLetters x = Due.told("a1;z1;az1;", "[ay]" + Due.times(58, "a") + ".");
        Due.due("22: the first SIGN", x.would(0, 0, 0), 3);
        Due.due("22: a letter that the TRACE has not", x.would(0, 0, 25), 3);
        Due.due("22: a letter that no WORD has", x.would(0, 0, 24), 0);
        Due.due("22: the 60th", x.would(0, 59, 25), 2);
        Due.due("22: READ as another", x.would(0, 58, 25), 4);
        Due.due("22: READ as it is", x.would(0, 58, 0), 3);
        Due.due("22: no 61st", x.would(0, 60, 0), -1);
    }

    /** What would be is not: the INSCRIPTION stays, and what was found of it. */
    private static void wouldStays() {
        for (int sign = 0; sign < 3; sign++) {
            for (int letter = 0; letter < 26; letter++) {
                LostLetters x = each();
                long all = x.fits(0);
                String before = Due.seen(x);
                String restored = Due.restored(x, 0);
                LostLetters y = each();
                y.loses(0, sign);
                y.reads(0, sign, letter);
                Due.due("22: as if READ", x.would(0, sign, letter), y.fits(0));
                Due.due("22: all stays", Due.seen(x).equals(before), true);
                Due.due("22: all stays", Due.restored(x, 0).equals(restored), true);
                Due.due("22: all stays", x.fits(0), all);
            }
        }
    }

    /** "-2", of what would be. */
    private static void wouldBeTooGreat() {
        LostLetters x = Due.told(ONES, "z" + GREAT);
        Due.due("22: 2 to the 63", x.would(0, 0, 8), -2);
        Due.due("22: none", x.would(0, 0, 25), 0);
        Due.due("11: nothing FITS still", x.fits(0), 0);
        x = Due.told(ONES, "z" + GREAT.substring(1));
        Due.due("22: 2 to the 62", x.would(0, 0, 8), 1L << 62);
    }

    /** "ASK ..; NONE: others, nothing FITS, no such SIGN"; "of several the first". */
    private static void ask() {
        Due.due("23: LOST", Due.told("a1;b1;", "a.").ask(0), 1);
        Due.due("23: a TRACE", Due.told("a1;b1;", "a[ab]").ask(0), 1);
        Due.due("23: READ: no such SIGN", Due.told("a1;b1;", "ab").ask(0), -1);
        Due.due("23: GAPS, marks: no such SIGN", Due.told("a1;b1;", "(1):{2}/").ask(0), -1);
        Due.due("23: no SIGNS", new LostLetters().ask(0), -1);
        Due.due("23: nothing FITS", Due.told("a1;b1;", "z.").ask(0), -1);
        Due.due("23: of two the first", Due.told("a1;b1;", "..").ask(0), 0);
        Due.due("23: of two the first", Due.told("a1;b1;", "[ab].").ask(0), 0);
        Due.due("23: SURE, but LOST", Due.told("a1;", "aa.").ask(0), 2);
        Due.due("23: had by fewer", Due.told("ab1;ac1;a1;", ".[ab]").ask(0), 1);
        Due.due("23: one FIT fewer", Due.told("aa1;ab1;ca1;", "..").ask(0), 0);
        Due.due("23: one FIT fewer", Due.told("aa1;ab1;bc1;", "..").ask(0), 1);
        Due.due("23: the 60th", Due.told("a1;b1;", Due.times(59, "a") + ".").ask(0), 59);
        Due.due("23: TOO GREAT", tooGreat().ask(0), -2);
        Due.due("23: half of TOO GREAT", Due.told(ONES, GREAT.substring(1)).ask(0), 0);
        for (int i : Due.noInscriptions()) {
            Due.refused("23: INSCRIPTION " + i, BoundsOfQuestionsTest::each, x -> x.ask(i), -1);
        }
    }

    private static void wrong(LostLetters x, int... row) {
        Due.due("24: how many", x.wrong(0, -1), row.length);
        for (int i = 0; i < row.length; i++) {
            Due.due("24: the " + i + "th", x.wrong(0, i), row[i]);
        }
        Due.due("24: none such", x.wrong(0, row.length), -1);
        Due.due("24: none such", x.wrong(0, 60), -1);
        Due.due("24: none such", x.wrong(0, Integer.MAX_VALUE), -1);
        Due.due("24: others", x.wrong(0, -2), -1);
        Due.due("24: others", x.wrong(0, Integer.MIN_VALUE), -1);
    }

    /** "the fewest SIGNS that are READ or a TRACE which, being LOST, make something FIT": none, one, all. */
    private static void wrongOnes() {
        wrong(Due.told("a1;", "a.[ab]"));
        wrong(new LostLetters());
        wrong(tooGreat());
        wrong(Due.told("a1;", "b"), 0);
        wrong(Due.told("a1;", "[bc]"), 0);
        wrong(Due.told("a1;", "b.[bc]a"), 0, 2);
        int[] all = new int[60];
        for (int s = 0; s < 60; s++) {
            all[s] = s;
        }
        wrong(Due.told("a1;", Due.times(60, "b")), all);
        wrong(Due.told("a1;", Due.times(59, "a") + "b"), 59);
        wrong(Due.told("a1;", "b" + Due.times(59, "a")), 0);
        // GAPS and marks have numbers, too, but are not wrong
        wrong(Due.told("a1;", "(1)b:{2}/[bc]"), 1, 5);
    }

    /** "which: of equal ones the row of SIGNS that is ahead at the first unlike one (the less ahead)". */
    private static void rowsOfWrong() {
        wrong(Due.told("ax1;xb1;", "ab"), 0);
        wrong(Due.told("axc1;xbc1;abx1;", "abc"), 0);
        wrong(Due.told("axc1;abx1;", "abc"), 1);
        // rows 0 3 and 1 2; 0 2 and 0 1; the fewer is ahead of the less
        wrong(Due.told("axxd1;xbcx1;", "abcd"), 0, 3);
        wrong(Due.told("xbxd1;xxcd1;", "abcd"), 0, 1);
        wrong(Due.told("xxcd1;abcx1;", "abcd"), 3);
        wrong(Due.told("xx1;xb1;", "ab"), 0);
    }

    /** "-3: nothing would FIT were all LOST"; "NONE: others, none such". */
    private static void hopeless() {
        for (String text : new String[] {"a", "abc", "a:b", "[ab].a", "(1)", "{3}"}) {
            Due.due("24: " + text, Due.told("ab1;", text).wrong(0, -1), -3);
        }
        for (String text : new String[] {"ab", "a.", "zz", "zz:zz", "(2)", "{4}", "(0)"}) {
            Due.due("24: " + text, Due.told("ab1;", text).wrong(0, -1) >= 0, true);
        }
        Due.due("24: no WORDS", Due.told("", ".").wrong(0, -1), -3);
        Due.due("24: no WORDS, no letters", Due.told("", ":").wrong(0, -1), 0);
        Due.due("24: the first of none", Due.told("ab1;", "a").wrong(0, 0), -3);
        LostLetters x = Due.told("ab1;", "z/z");
        wrong(x, 0, 2);
        x.rule(0, 0);
        Due.due("24: RULE 0", x.wrong(0, -1), -3);
        x.rule(0, 1);
        wrong(x, 0, 2);
        for (int i : Due.noInscriptions()) {
            for (int which : new int[] {-1, 0, 1}) {
                Due.refused("24: INSCRIPTION " + i, BoundsOfQuestionsTest::nothing, y -> y.wrong(i, which), -1);
            }
        }
        Due.refused("24: others", BoundsOfQuestionsTest::nothing, y -> y.wrong(0, -2), -1);
        Due.refused("24: all stays", BoundsOfQuestionsTest::nothing, y -> y.wrong(0, -1), 1);
        Due.refused("24: all stays", BoundsOfQuestionsTest::nothing, y -> y.wrong(0, 0), 0);
    }

    /** "SURE: [ its letter ]"; "DOUBTFUL, of which nothing FITS: ."; "READ: its letter". */
    private static void lettersRestored() {
        Due.dueRestored(Due.told("ab1;ac1;", "a[bz]"), 0, "a[b]");
        Due.dueRestored(Due.told("ab1;ac1;", "a[bc]"), 0, "a.");
        Due.dueRestored(Due.told("ab1;ac1;", ".b"), 0, "[a]b");
        Due.dueRestored(Due.told("ab1;ac1;", ".."), 0, "[a].");
        Due.dueRestored(Due.told("ab1;ac1;", "z.[bc]"), 0, "z..");
        Due.dueRestored(Due.told("az1;", ".."), 0, "[a][z]");
        Due.dueRestored(new LostLetters(), 0, "");
        Due.dueRestored(Due.told("", ":/:"), 0, ":/:");
        Due.dueRestored(Due.told("", ":./:"), 0, ":./:");
    }

    /** "a GAP that has n letters in all FITS: ( n ), others ( ? )". */
    private static void gapsRestored() {
        for (int n = 0; n <= 12; n++) {
            Due.dueRestored(Due.told("a1;", "(" + n + ")"), 0, "(" + n + ")");
        }
        for (int n = 0; n <= 24; n++) {
            Due.dueRestored(Due.told("i1;", "{" + n + "}"), 0, "(" + n + ")");
        }
        Due.dueRestored(Due.told("a1;", "(0-1)"), 0, "(?)");
        Due.dueRestored(Due.told("ab1;", "(0-1)"), 0, "(0)");
        Due.dueRestored(Due.told("ab1;", "(1-2)"), 0, "(2)");
        Due.dueRestored(Due.told("ab1;", "(2)z"), 0, "(?)z");
        Due.dueRestored(Due.told("i1;m1;", "{3}"), 0, "(?)");
        Due.dueRestored(Due.told("a1;m1;", "{3}"), 0, "(1)");
        Due.dueRestored(Due.told("", "(0-12){0-24}"), 0, "(0)(0)");
        Due.dueRestored(Due.told("i1;", Due.times(6, "{24}") + Due.times(54, ".")), 0,
                Due.times(6, "(24)") + Due.times(54, "[i]"));
    }

    /** "NONE: others, none such; -2: TOO GREAT." */
    private static void restoredRefused() {
        LostLetters x = Due.told(WORDS, "cab");
        Due.due("25: the first", x.restored(0, 0), 'c');
        Due.due("25: the last", x.restored(0, 2), 'b');
        for (int i : new int[] {-1, 3, 4, 240, 241, Integer.MIN_VALUE, Integer.MAX_VALUE}) {
            Due.refused("25: byte " + i, () -> Due.told(WORDS, "cab"), y -> y.restored(0, i), -1);
        }
        for (int i : Due.noInscriptions()) {
            Due.refused("25: INSCRIPTION " + i, BoundsOfQuestionsTest::each, y -> y.restored(i, 0), -1);
        }
        Due.due("25: no SIGNS", new LostLetters().restored(2, 0), -1);
        Due.due("25: the longest: the last", Due.told("w1;", Due.times(60, ".")).restored(0, 179), ']');
        Due.due("25: the longest: behind the last", Due.told("w1;", Due.times(60, ".")).restored(0, 180), -1);
        Due.due("25: TOO GREAT", tooGreat().restored(0, 0), -2);
        Due.due("25: TOO GREAT: the last", tooGreat().restored(0, 53), -2);
        Due.due("25: below 0, though TOO GREAT", tooGreat().restored(0, -1), -1);
        Due.due("25: half of TOO GREAT", Due.told(ONES, GREAT.substring(1)).restored(0, 0), '.');
        Due.due("25: half of TOO GREAT", Due.told(ONES, GREAT.substring(1)).restored(0, 51), '1');
    }

    public static void main(String[] args) {
        needed();
        wordsRefused();
        reach();
        whyLetters();
        whyMarks();
        whyGaps();
        stuckRefused();
        would();
        wouldStays();
        wouldBeTooGreat();
        ask();
        wrongOnes();
        rowsOfWrong();
        hopeless();
        lettersRestored();
        gapsRestored();
        restoredRefused();
        Due.finish("BoundsOfQuestionsTest");
    }
}
