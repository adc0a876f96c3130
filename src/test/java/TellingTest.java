/** Promises 1 to 5, 9 and 10: the TAPE, the LIST, the INSCRIPTIONS, and what is told of them. */
public final class TellingTest {
    private static void newObject() {
        LostLetters x = new LostLetters();
        for (int what = 0; what < 7; what++) {
            Due.due("1: count(" + what + ")", x.count(what), 0);
        }
        for (int i = 0; i < 3; i++) {
            Due.due("1: RULE", x.count(7 + i), 1);
            Due.due("1: fits", x.fits(i), 1);
            Due.due("1: sign", x.sign(i, 0, 0), -2);
        }
        Due.due("1: word", x.word(0, 0), -1);
        Due.due("1: NONE", LostLetters.NONE, -1);
    }

    private static void feeds() {
        LostLetters x = new LostLetters();
        for (int n = 24; n <= 480; n += 24) {
            Due.due("2: feed", x.feed(0, -1, 7), n);
        }
        Due.due("2: a 481st byte", x.feed(0, 0, 0), -1);
        Due.due("2: none came", x.count(3), 480);
        Due.due("3: end", x.end(457), 457);
        Due.due("2: would be 481", x.feed(0, 0, 0), -1);
        Due.due("2: stays", x.count(3), 457);
        Due.due("3: end", x.end(456), 456);
        Due.due("2: 480 again", x.feed(0, 0, 0), 480);
        x = new LostLetters();
        x.feed(0x6120353b6220363bL, 0x6320373b6420383bL, 0x6520393b6620343bL);
        Due.due("2: the highest first", x.list(), 6);
        for (int w = 0; w < 6; w++) {
            Due.due("2: letters in their row", x.word(w, 10), w);
        }
        Due.due("2: behind", x.feed(0x6120353b20202020L, 0x2020202020202020L, 0x2020202020202020L), 24);
        Due.due("2: behind", x.feed(0x6220353b20202020L, 0x2020202020202020L, 0x2020202020202020L), 48);
        Due.due("2: behind the TAPE", x.list(), 2);
        Due.due("2: behind the TAPE", x.word(1, 10), 1);
    }

    private static void ends() {
        LostLetters x = new LostLetters();
        Due.due("3: of none", x.end(0), 0);
        Due.due("3: not so many", x.end(1), -1);
        x.feed(0, 0, 0);
        Due.due("3: not so many", x.end(25), -1);
        Due.due("3: below 0", x.end(-1), -1);
        Due.due("3: the least int", x.end(Integer.MIN_VALUE), -1);
        Due.due("3: stays", x.count(3), 24);
        Due.due("3: all", x.end(24), 24);
        Due.due("3: some", x.end(7), 7);
        Due.due("3: stays so", x.count(3), 7);
        Due.due("3: not so many any more", x.end(8), -1);
    }

    private static void dueFault(String text, int place, int kind) {
        LostLetters x = new LostLetters();
        Due.list(x, "old 7;");
        Due.due("4: list " + text, Due.list(x, text), Due.fault(place, kind));
        Due.due("4: the TAPE is empty", x.count(3), 0);
        Due.due("4: the old one stays", x.count(0), 1);
        Due.due("4: the old one stays", x.word(0, 1), 7);
    }

    private static String words(int many) {
        StringBuilder text = new StringBuilder();
        for (int w = 0; w < many; w++) {
            text.append((char) ('a' + w / 26)).append((char) ('a' + w % 26)).append("9;");
        }
        return text.toString();
    }

    private static void lists() {
        LostLetters x = new LostLetters();
        Due.due("4: empty", Due.list(x, ""), 0);
        Due.due("4: blanks alone", Due.list(x, " \n "), 0);
        Due.due("4: list", Due.list(x, "a1;\n bc \n 99 ; \nabcdefghi07;"), 3);
        Due.due("4: WORDS", x.count(0), 3);
        Due.due("4: letters", x.count(1), 12);
        Due.due("4: WEIGHTS", x.count(2), 107);
        Due.due("4: in place of the old one", Due.list(x, "zz 4;"), 1);
        Due.due("4: WORDS", x.count(0), 1);
        Due.due("4: empty again", Due.list(x, ""), 0);
        Due.due("4: 40 WORDS", Due.list(x, words(40)), 40);
        dueFault("5;", 0, 1);
        dueFault(" ;", 1, 1);
        dueFault("ab", 2, 1);
        dueFault("ab \n", 4, 1);
        dueFault("ab5", 3, 1);
        dueFault("ab5 ", 4, 1);
        dueFault("ab5;c", 5, 1);
        dueFault("ab;", 2, 1);
        dueFault("ab cd 5;", 3, 1);
        dueFault("ab 5 6;", 5, 1);
        dueFault("ab5c;", 3, 1);
        dueFault("aB5;", 1, 1);
        dueFault("ab\t5;", 2, 1);
        dueFault("a5;;", 3, 1);
        dueFault("a5; \u00e9", 4, 1);
        dueFault("a5;\0", 3, 1);
        dueFault("abcdefghij5;", 0, 2);
        dueFault("a5; abcdefghijk", 4, 2);
        dueFault("a0;", 1, 2);
        dueFault("a 00;", 2, 2);
        dueFault("a100;", 1, 2);
        dueFault("a001;", 1, 2);
        dueFault("a 12345678901234567890;", 2, 2);
        dueFault("a1;b2;a3;", 6, 3);
        dueFault("a1;b2;a", 6, 3);
        dueFault("a1;a1x", 3, 3);
        dueFault(words(41), 160, 4);
        dueFault(words(40) + "\n z", 162, 4);
        dueFault(words(40) + "aa", 160, 3);
        dueFault(words(40) + "abcdefghij", 160, 2);
        dueFault(words(40) + "7", 160, 1);
        dueFault("abcdefghij 5; a0;", 0, 2);
    }

    /** What was on the TAPE behind its end is no part of it. */
    private static void behindTheEnd() {
        String[] lists = {"a5;b6;", "ab5;", "a 5;", "a5 ;"};
        int[] cuts = {2, 1, 1, 3};
        for (int i = 0; i < lists.length; i++) {
            LostLetters x = new LostLetters();
            Due.put(x, lists[i]);
            x.end(cuts[i]);
            Due.due("3: " + lists[i], x.list(), Due.fault(cuts[i], 1));
        }
        String[] texts = {"(3)", "(3-4)", "(3-4)", "(3-4)", "[ab]", "[abc]", "{12}", "(13)"};
        int[] ends = {2, 1, 3, 4, 3, 2, 3, 2};
        for (int i = 0; i < texts.length; i++) {
            LostLetters x = new LostLetters();
            Due.put(x, texts[i]);
            x.end(ends[i]);
            Due.due("3: " + texts[i], x.inscribe(0), Due.fault(ends[i], 1));
        }
        LostLetters x = new LostLetters();
        Due.put(x, "ab:c");
        x.end(2);
        Due.due("3: two SIGNS", x.inscribe(0), 2);
    }

    private static void wordsTold() {
        LostLetters x = new LostLetters();
        Due.list(x, "mil 12; abcdefghi 99; jw3;");
        Due.due("9: letters", x.word(0, 0), 3);
        Due.due("9: WEIGHT", x.word(0, 1), 12);
        Due.due("9: WIDTHS", x.word(0, 2), 5);
        Due.due("9: WIDTHS", x.word(1, 2), 17);
        Due.due("9: WIDTHS", x.word(2, 2), 4);
        Due.due("9: m", x.word(0, 10), 12);
        Due.due("9: i", x.word(0, 11), 8);
        Due.due("9: l", x.word(0, 12), 11);
        Due.due("9: behind the last", x.word(0, 13), -1);
        Due.due("9: behind the last", x.word(0, 18), -1);
        Due.due("9: the ninth", x.word(1, 18), 8);
        Due.due("9: no such what", x.word(1, 19), -1);
        Due.due("9: no such what", x.word(1, 9), -1);
        Due.due("9: no such what", x.word(1, 3), -1);
        Due.due("9: no such what", x.word(1, -1), -1);
        Due.due("9: no such what", x.word(1, Integer.MAX_VALUE), -1);
        Due.due("9: no such what", x.word(1, Integer.MIN_VALUE), -1);
        Due.due("9: no such WORD", x.word(3, 0), -1);
        Due.due("9: no such WORD", x.word(-1, 10), -1);
        Due.list(x, "abcdefghi 1; jklmnopqr 1; stuvwxyz 1;");
        int[] widths = {17, 17, 17};
        for (int w = 0; w < 3; w++) {
            Due.due("9: WIDTHS of all letters", x.word(w, 2), widths[w]);
        }
    }

    private static void dueFaultOf(String text, int place, int kind) {
        LostLetters x = new LostLetters();
        Due.inscribe(x, 1, "old");
        x.rule(1, 0);
        Due.due("5: inscribe " + text, Due.inscribe(x, 1, text), Due.fault(place, kind));
        Due.due("5: the TAPE is empty", x.count(3), 0);
        Due.due("5: the old one stays", x.count(5), 3);
        Due.due("5: its RULE stays", x.count(8), 0);
        Due.due("5: the old one stays", x.sign(1, 0, 1), Due.bits("o"));
    }

    private static String times(int n, String text) {
        StringBuilder all = new StringBuilder();
        for (int i = 0; i < n; i++) {
            all.append(text);
        }
        return all.toString();
    }

    private static void inscribes() {
        LostLetters x = new LostLetters();
        Due.due("5: all kinds", Due.inscribe(x, 2, "a.[bz](3)(0-12){4}{0-24}:/"), 9);
        Due.due("5: SIGNS", x.count(6), 9);
        Due.due("5: others stay", x.count(4), 0);
        x.rule(2, 0);
        Due.due("5: again", Due.inscribe(x, 2, "z"), 1);
        Due.due("5: RULE 1 again", x.count(9), 1);
        Due.due("5: empty", Due.inscribe(x, 2, ""), 0);
        Due.due("5: 60 SIGNS", Due.inscribe(x, 0, times(60, ".")), 60);
        Due.due("5: six GAPS", Due.inscribe(x, 0, "(0){0}(1){1}(2){2}"), 6);
        Due.due("5: 96 bytes", Due.inscribe(x, 0, times(12, "[abcdef]")), 12);
        Due.put(x, "abc");
        Due.due("5: no such one", x.inscribe(3), -1);
        Due.due("5: no such one", x.inscribe(-1), -1);
        Due.due("5: the TAPE stays", x.count(3), 3);
        Due.put(x, times(97, "a"));
        x.end(97);
        Due.due("5: more than 96", x.inscribe(0), -1);
        Due.due("5: it is empty then", x.count(3), 0);
        Due.due("5: the old one stays", x.count(4), 12);
    }

    private static void inscribeFaults() {
        dueFaultOf("A", 0, 1);
        dueFaultOf("a b", 1, 1);
        dueFaultOf("ab\n", 2, 1);
        dueFaultOf("a5", 1, 1);
        dueFaultOf("a]", 1, 1);
        dueFaultOf("a)", 1, 1);
        dueFaultOf("a}", 1, 1);
        dueFaultOf("a-", 1, 1);
        dueFaultOf("a\0", 1, 1);
        dueFaultOf("[", 1, 1);
        dueFaultOf("[]", 1, 1);
        dueFaultOf("[a]", 2, 1);
        dueFaultOf("[a", 2, 1);
        dueFaultOf("[ab", 3, 1);
        dueFaultOf("[ab.", 3, 1);
        dueFaultOf("[abcdefg]", 7, 1);
        dueFaultOf("[abcdefa]", 7, 1);
        dueFaultOf("[ba]", 2, 2);
        dueFaultOf("[acb", 3, 2);
        dueFaultOf("x[aa]", 3, 2);
        dueFaultOf("(", 1, 1);
        dueFaultOf("()", 1, 1);
        dueFaultOf("(-3)", 1, 1);
        dueFaultOf("(3", 2, 1);
        dueFaultOf("(3}", 2, 1);
        dueFaultOf("{3)", 2, 1);
        dueFaultOf("(3-", 3, 1);
        dueFaultOf("(3-)", 3, 1);
        dueFaultOf("(3-4", 4, 1);
        dueFaultOf("(3-4-5)", 4, 1);
        dueFaultOf("(3 )", 2, 1);
        dueFaultOf("(13)", 1, 2);
        dueFaultOf("(0-13)", 3, 2);
        dueFaultOf("{25}", 1, 2);
        dueFaultOf("{0-25}", 3, 2);
        dueFaultOf("(001)", 1, 2);
        dueFaultOf("(123", 1, 2);
        dueFaultOf("(1-001)", 3, 2);
        dueFaultOf("(99999999999999999999)", 1, 2);
        dueFaultOf("(4-3)", 3, 2);
        dueFaultOf("{24-23}", 4, 2);
        dueFaultOf(times(61, "a"), 60, 3);
        dueFaultOf(times(60, "a") + "[", 60, 3);
        dueFaultOf(times(60, "a") + "A", 60, 1);
        dueFaultOf(times(60, "a") + "]", 60, 1);
        dueFaultOf(times(30, ".:") + "(99)", 60, 3);
        dueFaultOf("(1)(1)(1){1}{1}{1}(1)", 18, 3);
        dueFaultOf("(1)(1)(1){1}{1}{1}a{", 19, 3);
        dueFaultOf("(1)(1)(1){1}{1}{1}a{25}", 19, 3);
        dueFaultOf("[ba](13)", 2, 2);
    }

    private static void signsTold() {
        LostLetters x = new LostLetters();
        Due.inscribe(x, 0, "c.[bz](3)(0-12){4}{00-24}:/");
        int[] kinds = {0, 1, 2, 3, 3, 4, 4, 5, 6};
        int[] least = {-1, -1, -1, 3, 0, 4, 0, -1, -1};
        int[] most = {-1, -1, -1, 3, 12, 4, 24, -1, -1};
        int[] masks = {4, (1 << 26) - 1, Due.bits("bz"), 0, 0, 0, 0, 0, 0};
        for (int s = 0; s < 9; s++) {
            Due.due("10: kind", x.sign(0, s, 0), kinds[s]);
            Due.due("10: letters", x.sign(0, s, 1), masks[s]);
            Due.due("10: the least", x.sign(0, s, 2), least[s]);
            Due.due("10: the most", x.sign(0, s, 3), most[s]);
            Due.due("10: no such what", x.sign(0, s, 4), -2);
            Due.due("10: no such what", x.sign(0, s, -1), -2);
        }
        Due.due("10: no such SIGN", x.sign(0, 9, 0), -2);
        Due.due("10: no such SIGN", x.sign(0, -1, 0), -2);
        Due.due("10: no such INSCRIPTION", x.sign(3, 0, 0), -2);
        Due.due("10: no such INSCRIPTION", x.sign(-1, 0, 0), -2);
        Due.due("10: of another one", x.sign(1, 0, 0), -2);
    }

    public static void main(String[] args) {
        newObject();
        feeds();
        ends();
        lists();
        behindTheEnd();
        wordsTold();
        inscribes();
        inscribeFaults();
        signsTold();
        Due.finish("TellingTest");
    }
}
