/** Promises 20 to 25: WORDS that are NEEDED, STUCK, what would be, ASK, WRONG, what is restored. */
public final class AskingTest {
    private static final String WORDS = "ab 5; a 3; b 4; cab 7;";
    private static final String ONES = "i1;j1;";
    /** With two WORDS of one letter: 2 to the 63. */
    private static final String GREAT = "..................................................." + "(12)";

    private static LostLetters tooGreat() {
        return Due.told(ONES, GREAT);
    }

    private static void needed() {
        LostLetters x = Due.told(WORDS, "c..b");
        Due.due("20: NEEDED", x.words(0, 0), 0b1100);
        Due.due("20: in some", x.words(0, 1), 0b1100);
        x = Due.told(WORDS, "abb");
        Due.due("20: NEEDED", x.words(0, 0), 0b0100);
        Due.due("20: in some", x.words(0, 1), 0b0111);
        x = Due.told(WORDS, "(0-3)");
        Due.due("20: none NEEDED", x.words(0, 0), 0);
        Due.due("20: in some", x.words(0, 1), 0b1111);
        x = Due.told(WORDS, "z");
        Due.due("20: nothing FITS", x.words(0, 0), 0);
        Due.due("20: nothing FITS", x.words(0, 1), 0);
        x = Due.told(WORDS, "");
        Due.due("20: no letters", x.words(0, 0), 0);
        Due.due("20: no letters", x.words(0, 1), 0);
        Due.due("20: others", x.words(0, 2), -1);
        Due.due("20: others", x.words(0, -1), -1);
        Due.due("20: others", x.words(3, 0), -1);
        Due.due("20: others", x.words(-1, 0), -1);
        Due.due("20: TOO GREAT", tooGreat().words(0, 0), -2);
        Due.due("20: TOO GREAT", tooGreat().words(0, 1), -2);
        Due.due("20: others, though TOO GREAT", tooGreat().words(0, 2), -1);
        StringBuilder forty = new StringBuilder();
        for (int w = 0; w < 40; w++) {
            forty.append((char) ('a' + w / 26)).append((char) ('a' + w % 26)).append("9;");
        }
        Due.due("20: the 40th", Due.told(forty.toString(), "bn").words(0, 0), 1L << 39);
    }

    private static void dueStuck(LostLetters x, int reach, int why, int could) {
        Due.due("21: REACH", x.stuck(0, 0), reach);
        Due.due("21: WHY", x.stuck(0, 1), why);
        Due.due("21: what could be there", x.stuck(0, 2), could);
    }

    private static void stuck() {
        dueStuck(Due.told(WORDS, "ab"), 2, 0, 0);
        dueStuck(Due.told(WORDS, ""), 0, 0, 0);
        dueStuck(Due.told(WORDS, "abz"), 2, 1, Due.bits("abc"));
        dueStuck(Due.told(WORDS, "z"), 0, 1, Due.bits("abc"));
        dueStuck(Due.told(WORDS, "cb"), 1, 1, Due.bits("a"));
        dueStuck(Due.told(WORDS, "c[bz]"), 1, 1, Due.bits("a"));
        dueStuck(Due.told("abc1;", "ab."), 3, 0, 0);
        dueStuck(Due.told("abc1;", "ab:"), 2, 2, Due.bits("c"));
        dueStuck(Due.told("abc1;abd1;", "ab"), 2, 2, Due.bits("cd"));
        dueStuck(Due.told("abc1;", "(1-2)"), 1, 2, Due.bits("bc"));
        dueStuck(Due.told("abc1;", "(4-6):"), 2, 0, 0);
        dueStuck(Due.told("abc1;", "(4-5):"), 1, 2, Due.bits("bc"));
        dueStuck(Due.told("abc1;", "ab(2)z"), 3, 1, Due.bits("b"));
        dueStuck(Due.told("abc1;", "ab{3}"), 2, 3, Due.bits("c"));
        dueStuck(Due.told("abc1;", "abc{1}"), 3, 3, Due.bits("a"));
        dueStuck(Due.told("", "(1)"), 0, 3, 0);
        dueStuck(Due.told("", "."), 0, 1, 0);
        LostLetters x = Due.told("abc1;", "a/bc");
        dueStuck(x, 4, 0, 0);
        x.rule(0, 0);
        dueStuck(x, 1, 2, Due.bits("b"));
        Due.due("21: others", x.stuck(0, 3), -1);
        Due.due("21: others", x.stuck(0, -1), -1);
        Due.due("21: others", x.stuck(3, 0), -1);
        Due.due("21: others", x.stuck(-1, 0), -1);
        dueStuck(tooGreat(), 52, 0, 0);
        dueStuck(Due.told(ONES, GREAT + "z"), 52, 1, Due.bits("ij"));
        // 2 to the 64 and more ways to come so far
        dueStuck(Due.told(ONES, "." + GREAT + "z"), 53, 1, Due.bits("ij"));
        dueStuck(Due.told(ONES, ".." + GREAT + "z"), 54, 1, Due.bits("ij"));
        dueStuck(Due.told("i1;j1;k1;", "(12)(12)(12)(12)(12)(12)z"), 6, 1, Due.bits("ijk"));
        dueStuck(Due.told(ONES, "{24}{24}{24}{24}{24}{24}z"), 6, 1, Due.bits("ij"));
    }

    private static void would() {
        LostLetters x = Due.told(WORDS, "a.[bc](0-1):");
        Due.due("22: LOST", x.would(0, 1, 0), x.by(0, 1, 0));
        Due.due("22: a TRACE", x.would(0, 2, 1), x.by(0, 2, 1));
        Due.due("22: a TRACE that has it not: a.a(0-1)", x.would(0, 2, 0), 13);
        Due.due("22: READ", x.would(0, 0, 0), x.fits(0));
        Due.due("22: READ as another: c.b(0-1)", x.would(0, 0, 2), 3);
        Due.due("22: no WORD has it", x.would(0, 0, 25), 0);
        Due.due("22: nothing changes", x.sign(0, 0, 1), 1);
        Due.due("22: nothing changes", x.sign(0, 2, 1), Due.bits("bc"));
        Due.due("22: GAPS", x.would(0, 3, 0), -1);
        Due.due("22: marks", x.would(0, 4, 0), -1);
        Due.due("22: none such", x.would(0, 5, 0), -1);
        Due.due("22: none such", x.would(0, -1, 0), -1);
        Due.due("22: others", x.would(3, 0, 0), -1);
        Due.due("22: others", x.would(-1, 0, 0), -1);
        Due.due("22: no letter", x.would(0, 0, 26), -1);
        Due.due("22: no letter", x.would(0, 0, -1), -1);
        x = tooGreat();
        Due.due("22: half of TOO GREAT", x.would(0, 0, 8), 1L << 62);
        Due.due("22: none of TOO GREAT", x.would(0, 0, 0), 0);
        Due.due("22: no letter", x.would(0, 0, 26), -1);
        x = Due.told(ONES, GREAT + "z");
        Due.due("22: nothing FITS", x.fits(0), 0);
        Due.due("22: TOO GREAT then", x.would(0, 52, 8), -2);
        Due.due("22: nothing FITS still", x.fits(0), 0);
    }

    private static void ask() {
        LostLetters x = Due.told("a1;b1;c1;", "a[ab].[abc]:");
        Due.due("23: of several the first", x.ask(0), 2);
        Due.due("23: the one LOST", Due.told("a1;b1;c1;", "a[ab].").ask(0), 2);
        Due.due("23: a TRACE", Due.told("a1;b1;c1;", "a[abc].").ask(0), 1);
        Due.due("23: SURE ones, too", Due.told("a1;", "a.(1).").ask(0), 1);
        Due.due("23: no such SIGN", Due.told("a1;", "a(1):").ask(0), -1);
        Due.due("23: nothing FITS", Due.told("a1;", ".z").ask(0), -1);
        Due.due("23: no letters", Due.told("a1;", "").ask(0), -1);
        Due.due("23: others", x.ask(3), -1);
        Due.due("23: others", x.ask(-1), -1);
        Due.due("23: TOO GREAT", tooGreat().ask(0), -2);
    }

    private static void dueWrong(LostLetters x, int... row) {
        Due.due("24: how many", x.wrong(0, -1), row.length);
        for (int i = 0; i < row.length; i++) {
            Due.due("24: one of them", x.wrong(0, i), row[i]);
        }
        Due.due("24: none such", x.wrong(0, row.length), -1);
        Due.due("24: none such", x.wrong(0, Integer.MAX_VALUE), -1);
    }

    private static void wrong() {
        dueWrong(Due.told(WORDS, "ab"));
        dueWrong(Due.told(WORDS, ""));
        dueWrong(tooGreat());
        dueWrong(Due.told(WORDS, "abz"), 2);
        dueWrong(Due.told(WORDS, "ca"), 0);
        dueWrong(Due.told(WORDS, "a[yz].[xy]"), 1, 3);
        // a b, b a: of two equal rows the less is ahead
        dueWrong(Due.told("ab1;ba1;", "aa"), 0);
        Due.due("24: hopeless", Due.told("ab1;ba1;", "z:z.").wrong(0, -1), -3);
        dueWrong(Due.told("abc1;bcd1;", "abd"), 2);
        dueWrong(Due.told("xbc1;abx1;", "abc"), 0);
        dueWrong(Due.told("xyc1;abx1;", "abc"), 2);
        dueWrong(Due.told("axxd1;xbcx1;", "abcd"), 0, 3);
        Due.due("24: hopeless", Due.told("ab1;", "a").wrong(0, -1), -3);
        Due.due("24: hopeless", Due.told("", "a").wrong(0, 0), -3);
        Due.due("24: others", Due.told("", "a").wrong(0, -2), -1);
        Due.due("24: others", Due.told("", "a").wrong(3, -1), -1);
        Due.due("24: others", Due.told("", "a").wrong(-1, -1), -1);
        Due.due("24: GAPS are not wrong", Due.told("ab1;", "(1)").wrong(0, -1), -3);
        LostLetters x = Due.told("ab1;cd1;", "ad/cb");
        dueWrong(x, 0, 3);
        x.rule(0, 0);
        dueWrong(x, 0, 3);
        StringBuilder sixty = new StringBuilder();
        int[] all = new int[60];
        for (int s = 0; s < 60; s++) {
            sixty.append('z');
            all[s] = s;
        }
        dueWrong(Due.told("a1;", sixty.toString()), all);
    }

    private static void restored() {
        Due.dueRestored(Due.told(WORDS, "c.[bz]:.(0)a/(1-3)"), 0, "c[a][b]:.(0)a/(?)");
        Due.dueRestored(Due.told(WORDS, "z.[ab](3):/"), 0, "z..(?):/");
        Due.dueRestored(Due.told("abcd1;", "(12):{16}:{0-1}"), 0, "(12):(8):(0)");
        Due.dueRestored(Due.told("i1;", "{24}{10}"), 0, "(24)(10)");
        Due.dueRestored(Due.told("i1;", "{9}{19}(11)(0)"), 0, "(9)(19)(11)(0)");
        Due.dueRestored(Due.told("i1;m1;", "{3}"), 0, "(?)");
        Due.dueRestored(Due.told("", ""), 0, "");
        LostLetters x = Due.told(WORDS, "ab");
        Due.due("25: below 0", x.restored(0, -1), -1);
        Due.due("25: none such", x.restored(0, Integer.MAX_VALUE), -1);
        Due.due("25: others", x.restored(3, 0), -1);
        Due.due("25: others", x.restored(-1, 0), -1);
        Due.due("25: TOO GREAT", tooGreat().restored(0, 0), -2);
        StringBuilder text = new StringBuilder();
        StringBuilder want = new StringBuilder();
        for (int s = 0; s < 60; s++) {
            text.append('.');
            want.append("[w]");
        }
        Due.dueRestored(Due.told("w1;", text.toString()), 0, want.toString());
    }

    public static void main(String[] args) {
        needed();
        stuck();
        would();
        ask();
        wrong();
        restored();
        Due.finish("AskingTest");
    }
}
