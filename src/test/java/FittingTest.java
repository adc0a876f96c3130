/** Promises 11 to 19: how many FITS, the k-th, the HEAVIEST, what they have where. */
public final class FittingTest {
    private static final String WORDS = "ab 5; a 3; b 4; cab 7;";
    private static final String ONES = "i1;j1;";
    /** With two WORDS of one letter: 2 to the 63. */
    private static final String GREAT = "..................................................." + "(12)";

    private static LostLetters tooGreat() {
        return Due.told(ONES, GREAT);
    }

    private static long fits(String words, String text) {
        return Due.told(words, text).fits(0);
    }

    private static void howMany() {
        Due.due("11: no letters", fits(WORDS, ""), 1);
        Due.due("11: marks alone", fits(WORDS, "::/:"), 1);
        Due.due("11: no WORDS", fits("", ".") , 0);
        Due.due("11: no WORDS, no letters", fits("", "(0-12){0-24}"), 1);
        Due.due("11: ab", fits(WORDS, "ab"), 2);
        Due.due("11: a WORD ends", fits(WORDS, "a:b"), 1);
        Due.due("11: a LINE ends", fits(WORDS, "a/b"), 2);
        Due.due("11: a TRACE", fits(WORDS, "[ac].[bc]"), 5);
        Due.due("11: within a WORD at the end", fits(WORDS, "ca"), 0);
        Due.due("11: GAP of letters", fits(WORDS, "(2)"), 5);
        Due.due("11: GAP from none on", fits(WORDS, "(0-2)"), 8);
        Due.due("11: of WIDTH 4, each 2 wide", fits(WORDS, "{4-5}"), 5);
        Due.due("11: of WIDTH 3, none", fits(WORDS, "{3}"), 0);
        Due.due("11: of WIDTH 3", fits("m1;i1;a1;", "{3}"), 4);
        Due.due("11: two GAPS", fits("a1;", "(0-2)(0-2)"), 9);
        Due.due("11: a WORD over two GAPS", fits("abc1;", "(0-3)(0-3)"), 6);
        Due.due("11: 2 to the 62", fits(ONES, GREAT.substring(1)), 1L << 62);
        Due.due("11: 2 to the 63", fits(ONES, GREAT), -2);
        long near = (1L << 21) - 1;
        Due.due("11: just below", fits(ONES, "{0-20}:{0-20}:{0-20}"), near * near * near);
        Due.due("11: just above", fits(ONES, "{0-20}:{0-20}:{0-21}"), -2);
        Due.due("11: a great part that does not go on", fits(ONES, GREAT + "z"), 0);
        Due.due("11: a great part that is not come to", fits(ONES, "z" + GREAT), 0);
        Due.due("11: others", tooGreat().fits(3), -1);
        Due.due("11: others", tooGreat().fits(-1), -1);
    }

    private static void dueFit(LostLetters x, long k, int weight, int letters, int... words) {
        Due.due("12: WORDS", Due.fit(x, 0, k, 0), words.length);
        Due.due("12: WEIGHT", Due.fit(x, 0, k, 1), weight);
        Due.due("12: letters", Due.fit(x, 0, k, 2), letters);
        for (int i = 0; i < words.length; i++) {
            Due.due("12: WORD " + i, Due.fit(x, 0, k, 10 + i), words[i]);
        }
        Due.due("12: behind the last", Due.fit(x, 0, k, 10 + words.length), Due.THROWS);
    }

    private static void theKth() {
        LostLetters x = Due.told(WORDS, "(0-2)b");
        // the GAP that ends first is ahead, whatever the WORDS
        dueFit(x, 0, 4, 1, 2);
        dueFit(x, 1, 5, 2, 0);
        dueFit(x, 2, 9, 3, 0, 2);
        dueFit(x, 3, 7, 2, 1, 2);
        dueFit(x, 4, 8, 3, 1, 0);
        dueFit(x, 5, 10, 3, 1, 1, 2);
        dueFit(x, 6, 11, 3, 1, 2, 2);
        dueFit(x, 7, 8, 2, 2, 2);
        dueFit(x, 8, 9, 3, 2, 0);
        dueFit(x, 9, 11, 3, 2, 1, 2);
        dueFit(x, 10, 12, 3, 2, 2, 2);
        dueFit(x, 11, 7, 3, 3);
        Due.due("11: as many", x.fits(0), 12);
        int[] inGap = {0, 1, 2, 1, 2, 2, 2, 1, 2, 2, 2, 2};
        for (int k = 0; k < 12; k++) {
            Due.due("13: letters of the GAP", Due.fitAt(x, 0, k, 0), inGap[k]);
            Due.due("13: the letter", Due.fitAt(x, 0, k, 1), 1);
        }
        Due.due("12: none such", Due.fit(x, 0, 12, 0), Due.THROWS);
        Due.due("12: none such", Due.fit(x, 0, -1, 0), Due.THROWS);
        Due.due("12: none such", Due.fit(x, 0, Long.MAX_VALUE, 0), Due.THROWS);
        Due.due("12: none such", Due.fit(x, 0, Long.MIN_VALUE, 0), Due.THROWS);
        Due.due("12: others", Due.fit(x, 3, 0, 0), Due.THROWS);
        Due.due("12: others", Due.fit(x, -1, 0, 0), Due.THROWS);
        for (int what = 3; what < 10; what++) {
            Due.due("12: others", Due.fit(x, 0, 0, what), Due.THROWS);
        }
        Due.due("12: others", Due.fit(x, 0, 0, -1), Due.THROWS);
        Due.due("12: others", Due.fit(x, 0, 0, Integer.MAX_VALUE), Due.THROWS);
        Due.due("12: others", Due.fit(x, 0, 0, Integer.MIN_VALUE), Due.THROWS);
        Due.due("12: TOO GREAT", Due.fit(tooGreat(), 0, 0, 0), Due.THROWS);
        Due.due("12: nothing FITS", Due.fit(Due.told(WORDS, "z"), 0, 0, 0), Due.THROWS);
        dueFit(Due.told(WORDS, ":"), 0, 0, 0);
    }

    private static void theLongest() {
        LostLetters x = Due.told("i7;", "{24}{24}{24}{24}{24}{24}" + GREAT.substring(0, 51) + "...");
        int[] words = new int[198];
        dueFit(x, 0, 7 * 198, 198, words);
        Due.due("13: the last SIGN", Due.fitAt(x, 0, 0, 59), 8);
        Due.due("13: the last GAP", Due.fitAt(x, 0, 0, 5), 24);
        Due.due("14: the only one", x.heaviest(0, 0), 0);
        Due.due("14: its WEIGHT", x.heaviest(0, 1), 7 * 198);
    }

    /** Questions of one INSCRIPTION between those of another. */
    private static void byTurns() {
        LostLetters x = Due.told(WORDS, "(0-2)b");
        Due.inscribe(x, 1, "[ac]b");
        Due.inscribe(x, 2, "{4}");
        for (int turn = 0; turn < 3; turn++) {
            Due.due("11: of 1", x.fits(1), 2);
            dueFit(x, 2, 9, 3, 0, 2);
            Due.due("11: of 2", x.fits(2), 5);
            Due.due("16: of 0", x.by(0, 1, 1), 12);
            Due.due("12: of 2", Due.fit(x, 2, 4, 10), 2);
            Due.due("12: of 1", Due.fit(x, 1, 1, 11), 2);
            Due.due("14: of 0", x.heaviest(0, 0), 10);
            Due.due("14: of 1", x.heaviest(1, 0), 1);
            Due.due("18: of 2", x.gap(2, 0, 2), 5);
            Due.due("15: of 1", x.letters(1, 0), Due.bits("a"));
            x.rule(turn, 0);
            Due.due("12: of 0", Due.fit(x, 0, 9, 1), 11);
        }
        Due.list(x, "b 2; ab 9;");
        Due.due("12: another LIST", Due.fit(x, 0, 1, 10), 0);
        Due.due("12: another LIST", Due.fit(x, 1, 0, 1), 9);
        Due.due("12: another LIST", Due.fit(x, 2, 1, 10), 1);
        Due.due("15: another LIST", x.letters(1, 0), Due.bits("a"));
        Due.due("14: another LIST", x.heaviest(0, 1), 11);
    }

    private static void twoGaps() {
        // the first GAP as short as can be is ahead, then the second
        LostLetters x = Due.told("a1;", "(0-1){0-2}");
        int[][] want = {{0, 0}, {0, 1}, {1, 0}, {1, 1}};
        for (int k = 0; k < 4; k++) {
            Due.due("13: the first GAP", Due.fitAt(x, 0, k, 0), want[k][0]);
            Due.due("13: the second GAP", Due.fitAt(x, 0, k, 1), want[k][1]);
        }
    }

    private static void atSigns() {
        LostLetters x = Due.told(WORDS, ".:{4}/.");
        x.rule(0, 0);
        Due.due("13: one of 2 * 5 * 2", x.fits(0), 20);
        Due.due("13: the first", Due.fitAt(x, 0, 0, 0), 0);
        Due.due("13: the last", Due.fitAt(x, 0, 19, 0), 1);
        Due.due("13: a GAP of WIDTH", Due.fitAt(x, 0, 7, 2), 2);
        Due.due("13: the last SIGN", Due.fitAt(x, 0, 19, 4), 1);
        Due.due("13: a mark", Due.fitAt(x, 0, 0, 1), Due.THROWS);
        Due.due("13: a mark", Due.fitAt(x, 0, 0, 3), Due.THROWS);
        Due.due("13: no SIGN", Due.fitAt(x, 0, 0, 5), Due.THROWS);
        Due.due("13: no SIGN", Due.fitAt(x, 0, 0, -1), Due.THROWS);
        Due.due("13: no INSCRIPTION", Due.fitAt(x, 3, 0, 0), Due.THROWS);
        Due.due("13: no INSCRIPTION", Due.fitAt(x, -1, 0, 0), Due.THROWS);
        Due.due("13: none such", Due.fitAt(x, 0, 20, 0), Due.THROWS);
        Due.due("13: none such", Due.fitAt(x, 0, -1, 0), Due.THROWS);
        Due.due("13: TOO GREAT", Due.fitAt(tooGreat(), 0, 0, 0), Due.THROWS);
    }

    private static void theHeaviest() {
        LostLetters x = Due.told(WORDS, "(0-2)b");
        Due.due("14: which", x.heaviest(0, 0), 10);
        Due.due("14: its WEIGHT", x.heaviest(0, 1), 12);
        x = Due.told("ab 7; a 3; b 4;", "ab");
        Due.due("14: of several the first", x.heaviest(0, 0), 0);
        Due.due("14: its WEIGHT", x.heaviest(0, 1), 7);
        x = Due.told("a 3; b 4; ab 7; ba 1;", "(1-2)");
        Due.due("14: of several the first", x.heaviest(0, 0), 5);
        Due.due("14: its WEIGHT", x.heaviest(0, 1), 8);
        x = Due.told(WORDS, "");
        Due.due("14: of no WORDS", x.heaviest(0, 0), 0);
        Due.due("14: of no WORDS", x.heaviest(0, 1), 0);
        Due.due("14: others", x.heaviest(0, 2), -1);
        Due.due("14: others", x.heaviest(0, -1), -1);
        Due.due("14: others", x.heaviest(3, 0), -1);
        Due.due("14: others", x.heaviest(-1, 0), -1);
        x = Due.told(WORDS, "z");
        Due.due("14: nothing FITS", x.heaviest(0, 0), -1);
        Due.due("14: nothing FITS", x.heaviest(0, 1), -1);
        Due.due("14: TOO GREAT", tooGreat().heaviest(0, 0), -2);
        Due.due("14: TOO GREAT", tooGreat().heaviest(0, 1), -2);
        Due.due("14: others, though TOO GREAT", tooGreat().heaviest(0, 2), -1);
    }

    private static void lettersAt() {
        LostLetters x = Due.told(WORDS, "..(1):");
        // ab, a b; ab, a a, b a, b b; each with a letter; cab
        Due.due("11: fits", x.fits(0), 13);
        Due.due("15: letters", x.letters(0, 0), Due.bits("abc"));
        Due.due("15: letters", x.letters(0, 1), Due.bits("ab"));
        Due.due("16: by", x.by(0, 0, 0), 7);
        Due.due("16: by", x.by(0, 0, 1), 5);
        Due.due("16: by", x.by(0, 0, 2), 1);
        Due.due("16: by", x.by(0, 0, 25), 0);
        Due.due("17: share", x.share(0, 0, 0), Float.floatToIntBits(7f / 13f));
        Due.due("17: share", x.share(0, 0, 2), Float.floatToIntBits(1f / 13f));
        Due.due("17: share of none", x.share(0, 0, 25), 0);
        for (int s = 2; s < 5; s++) {
            Due.due("15: GAPS, marks, none", x.letters(0, s), -1);
            Due.due("16: GAPS, marks, none", x.by(0, s, 0), -1);
            Due.due("17: GAPS, marks, none", x.share(0, s, 0), -1);
        }
        Due.due("15: others", x.letters(0, -1), -1);
        Due.due("15: others", x.letters(3, 0), -1);
        Due.due("15: others", x.letters(-1, 0), -1);
        Due.due("16: no letter", x.by(0, 0, 26), -1);
        Due.due("16: no letter", x.by(0, 0, -1), -1);
        Due.due("16: others", x.by(3, 0, 0), -1);
        Due.due("16: others", x.by(-1, 0, 0), -1);
        Due.due("17: no letter", x.share(0, 0, 26), -1);
        Due.due("17: no letter", x.share(0, 0, -1), -1);
        Due.due("17: others", x.share(3, 0, 0), -1);
    }

    private static void lettersOfFew() {
        LostLetters x = Due.told(WORDS, "z.");
        Due.due("15: nothing FITS", x.letters(0, 0), 0);
        Due.due("16: nothing FITS", x.by(0, 1, 0), 0);
        Due.due("17: nothing FITS", x.share(0, 1, 0), -1);
        x = Due.told(WORDS, "c..");
        Due.due("17: all", x.share(0, 1, 0), Float.floatToIntBits(1f));
        x = tooGreat();
        Due.due("15: TOO GREAT", x.letters(0, 0), -2);
        Due.due("16: TOO GREAT", x.by(0, 0, 25), -2);
        Due.due("17: TOO GREAT", x.share(0, 0, 25), -2);
        Due.due("15: GAPS, though TOO GREAT", x.letters(0, 51), -1);
        Due.due("16: no letter, though TOO GREAT", x.by(0, 0, 26), -1);
        x = Due.told("i1;j1;a1;", "{0-20}:{0-20}:.{0-5}");
        long all = x.fits(0);
        for (int c = 0; c < 10; c++) {
            long by = x.by(0, 4, c);
            Due.due("16: great", by, c == 0 || c > 7 ? all / 3 : 0);
            Due.due("17: great", x.share(0, 4, c), Float.floatToIntBits((float) by / (float) all));
        }
    }

    private static void shares() {
        LostLetters x = Due.told("a1;b1;i1;", "(0-12).");
        long all = x.fits(0);
        x = Due.told("a1;bcdefghij1;", "(0-12).");
        for (int c = 0; c < 26; c++) {
            float share = (float) x.by(0, 1, c) / (float) x.fits(0);
            Due.due("17: share", x.share(0, 1, c), Float.floatToIntBits(share));
        }
        Due.due("11: three to each length", all, 2391483L);
        // one among 2 to the 62 and 1: the least share but none
        x = Due.told("i1;j1;zz1;", "..............................[iz][iz]" + "...................." + "(12)");
        for (int c = 0; c < 26; c++) {
            for (int s = 0; s < 52; s += 3) {
                if (x.fits(0) > 0) {
                    float share = (float) x.by(0, s, c) / (float) x.fits(0);
                    Due.due("17: small", x.share(0, s, c), Float.floatToIntBits(share));
                }
            }
        }
    }

    private static void gaps() {
        LostLetters x = Due.told("i1;m1;a1;", "(1-2):{3}");
        Due.due("18: one letter", x.gap(0, 0, 1), 12);
        Due.due("18: two letters", x.gap(0, 0, 2), 36);
        Due.due("18: none", x.gap(0, 0, 0), 0);
        Due.due("18: m", x.gap(0, 1, 1), 12);
        Due.due("18: ia, ai", x.gap(0, 1, 2), 24);
        Due.due("18: iii", x.gap(0, 1, 3), 12);
        Due.due("18: 24", x.gap(0, 1, 24), 0);
        Due.due("18: above 24", x.gap(0, 1, 25), -1);
        Due.due("18: below 0", x.gap(0, 1, -1), -1);
        Due.due("18: no GAP", x.gap(0, 2, 0), -1);
        Due.due("18: no GAP", x.gap(0, -1, 0), -1);
        Due.due("18: others", x.gap(3, 0, 0), -1);
        Due.due("18: others", x.gap(-1, 0, 0), -1);
        Due.due("18: 24 letters", Due.told("i1;", "{24}").gap(0, 0, 24), 1);
        Due.due("18: nothing FITS", Due.told("i1;", "{24}z").gap(0, 0, 24), 0);
        Due.due("18: TOO GREAT", tooGreat().gap(0, 0, 0), -2);
        Due.due("18: no GAP, though TOO GREAT", tooGreat().gap(0, 1, 0), -1);
        Due.due("18: above 24, though TOO GREAT", tooGreat().gap(0, 0, 25), -1);
    }

    private static void sureSigns() {
        LostLetters x = Due.told(WORDS, "c.[bz]:.(0)a");
        Due.due("19: SURE", x.signs(0, 0), 0b1000111);
        Due.due("19: DOUBTFUL", x.signs(0, 1), 0b10000);
        Due.due("19: restored", x.signs(0, 2), 0b110);
        Due.due("19: others", x.signs(0, 3), -1);
        Due.due("19: others", x.signs(0, -1), -1);
        Due.due("19: others", x.signs(3, 0), -1);
        Due.due("19: others", x.signs(-1, 0), -1);
        x = Due.told(WORDS, "z.");
        for (int what = 0; what < 3; what++) {
            Due.due("19: nothing FITS", x.signs(0, what), 0);
            Due.due("19: TOO GREAT", tooGreat().signs(0, what), -2);
        }
        Due.due("19: others, though TOO GREAT", tooGreat().signs(0, 3), -1);
        x = Due.told("a1;", "............................................................");
        Due.due("19: 60 SIGNS", x.signs(0, 2), (1L << 60) - 1);
    }

    public static void main(String[] args) {
        howMany();
        theKth();
        theLongest();
        byTurns();
        twoGaps();
        atSigns();
        theHeaviest();
        lettersAt();
        lettersOfFew();
        shares();
        gaps();
        sureSigns();
        Due.finish("FittingTest");
    }
}
