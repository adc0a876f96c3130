import java.util.function.Supplier;

/**
 * The bounds of the TAPE, of a LIST and of its WORDS ('Terms', part 1; promises 1 to 4 and 9): of each
 * the last that is still taken and the first that is not, and what stays then.
 */
public final class BoundsOfListTest {
    private static final Supplier<LostLetters> OLD = () -> Due.told("old 7; one 8;", "o.(3)");

    private static void taken(String text, int many) {
        LostLetters x = OLD.get();
        Due.due("4: taken: " + text, Due.list(x, text), many);
        Due.due("4: the TAPE is empty then: " + text, x.count(3), 0);
        Due.due("4: in place of the old one: " + text, x.count(0), many);
    }

    private static void refused(String text, int place, int kind) {
        Due.refused("4: refused, the old one stays: " + text, OLD, x -> Due.list(x, text), Due.fault(place, kind));
    }

    /** "No WORDS; INSCRIPTIONS without SIGNS; an empty TAPE." */
    private static void newObject() {
        LostLetters x = new LostLetters();
        int[] counts = {0, 0, 0, 0, 0, 0, 0, 1, 1, 1};
        for (int what = 0; what < 10; what++) {
            Due.due("1: count(" + what + ")", x.count(what), counts[what]);
        }
        Due.due("1: no WORD", x.word(0, 0), -1);
        Due.due("1: an empty TAPE: no byte is taken off", x.end(1), -1);
        Due.due("1: an empty TAPE tells no WORDS", x.list(), 0);
        for (int i = 0; i < 3; i++) {
            Due.due("1: no SIGN", x.sign(i, 0, 0), -2);
            Due.due("1: an empty TAPE tells no SIGNS", x.inscribe(i), 0);
        }
    }

    /** "24 bytes come behind the TAPE ..: how many it has; NONE, and none come, if it would have more than 480." */
    private static void feeds() {
        long blanks = 0x2020202020202020L;
        long word = 0x2020202020612035L;
        long other = 0x6220363b6320373bL;
        LostLetters x = new LostLetters();
        for (int n = 24; n <= 456; n += 24) {
            Due.due("2: taken", x.feed(blanks, blanks, blanks), n);
        }
        Due.due("2: the last that is taken", x.feed(blanks, word, 0x3b20202020202020L), 480);
        Due.due("2: the first that is not", x.feed(other, other, other), -1);
        Due.due("2: how many stay", x.count(3), 480);
        Due.due("2: which ones stay", x.list(), 1);
        Due.due("2: which ones stay", x.word(0, 10), 0);
        Due.due("2: which ones stay", x.word(0, 1), 5);
        Due.due("2: empty, and taken again", x.feed(0, 0, 0), 24);
    }

    /** The same bound, when the TAPE has been cut: 456 bytes and 24 are 480, 457 and 24 are more. */
    private static void feedsBehindAnEnd() {
        for (int n = 455; n < 481; n++) {
            LostLetters x = new LostLetters();
            Due.put(x, "a5;" + Due.times(477, " "));
            x.end(n);
            boolean fits = n <= 456;
            Due.due("2: behind " + n, x.feed(0x2020202020202020L, 0x2020202020202020L, 0x20202020623b373bL),
                    fits ? n + 24 : -1);
            Due.due("2: has then", x.count(3), fits ? n + 24 : n);
            Due.due("2: which ones", x.list(), fits ? Due.fault(n + 21, 1) : 1);
        }
    }

    /** "24 bytes .., of each the highest first": the highest bit, too, is that of a byte alone. */
    private static void bytesOfFeeds() {
        for (int at = 0; at < 24; at++) {
            for (int b : new int[] {0, 127, 128, 255}) {
                LostLetters x = new LostLetters();
                char[] text = Due.times(24, " ").toCharArray();
                text[at] = (char) b;
                Due.put(x, new String(text));
                Due.due("2: byte " + b + " at " + at, x.list(), Due.fault(at, 1));
            }
        }
    }

    /** "The TAPE has its first n bytes alone: n; NONE: it has not so many, n is below 0." */
    private static void ends() {
        int[] not = {-1, -2, 10, 11, 480, 481, Integer.MIN_VALUE, Integer.MAX_VALUE};
        for (int n : not) {
            LostLetters x = new LostLetters();
            Due.put(x, "a 5; bc 7");
            Due.due("3: refused: " + n, x.end(n), -1);
            Due.due("3: how many stay", x.count(3), 9);
            Due.due("3: which ones stay", x.list(), Due.fault(9, 1));
        }
        for (int n = 0; n <= 9; n++) {
            LostLetters x = new LostLetters();
            Due.put(x, "a 5; bc 7");
            Due.due("3: taken", x.end(n), n);
            Due.due("3: has then", x.count(3), n);
            Due.due("3: not one more", x.end(n + 1), -1);
            Due.due("3: just so many", x.end(n), n);
        }
        LostLetters full = new LostLetters();
        Due.put(full, Due.times(480, " "));
        Due.due("3: 481 of 480", full.end(481), -1);
        Due.due("3: 480 of 480", full.end(480), 480);
        Due.due("3: none of 480", full.end(0), 0);
        Due.due("3: none of none", full.end(0), 0);
        Due.due("3: one of none", full.end(1), -1);
    }

    /** "WORDS: 40 at most"; "4 a 41st WORD (at it)". */
    private static void manyWords() {
        taken(Due.words(39), 39);
        taken(Due.words(40), 40);
        taken(Due.words(40) + " \n", 40);
        refused(Due.words(41), 160, 4);
        refused(Due.words(40) + " z", 161, 4);
        refused(Due.words(40) + "\n\nabcdefghi 5;", 162, 4);
        refused(Due.words(40) + "zz0;", 160, 4);
        LostLetters x = new LostLetters();
        Due.list(x, Due.words(40));
        Due.due("4: the 40th", x.word(39, 11), 13);
        Due.due("9: no 41st", x.word(40, 11), -1);
        Due.due("4: fewer in place of more", Due.list(x, "q 3;"), 1);
        Due.due("9: no second one any more", x.word(1, 0), -1);
        Due.due("27: letters", x.count(1), 1);
        Due.due("27: WEIGHTS", x.count(2), 3);
    }

    /** "each of 1 to 9 letters a to z"; "2 a WORD of ten letters and more (at it)". */
    private static void longWords() {
        taken("a5;", 1);
        taken("z5;", 1);
        taken("abcdefgh5;", 1);
        taken("abcdefghi5;", 1);
        taken("zzzzzzzzz 5;", 1);
        refused(" 5;", 1, 1);
        refused("abcdefghij5;", 0, 2);
        refused("a5; abcdefghij5;", 4, 2);
        refused(Due.times(480, "a"), 0, 2);
        refused("a5;" + Due.times(477, "z"), 3, 2);
        LostLetters x = new LostLetters();
        Due.list(x, "abcdefghi5;");
        Due.due("9: nine letters", x.word(0, 0), 9);
        Due.due("9: the ninth", x.word(0, 18), 8);
    }

    /** "a WEIGHT 1 to 99"; "2 .. a NUMBER below 1 or above 99, of three digits and more (at it)". */
    private static void weights() {
        for (int value = 0; value < 100; value++) {
            String two = (value < 10 ? "0" : "") + value;
            for (String number : new String[] {"" + value, two}) {
                if (value == 0) {
                    refused("ab " + number + ";", 3, 2);
                } else {
                    LostLetters x = new LostLetters();
                    Due.due("4: taken: " + number, Due.list(x, "ab " + number + ";"), 1);
                    Due.due("9: WEIGHT " + number, x.word(0, 1), value);
                }
            }
            refused("ab" + "0" + two + ";", 2, 2);
        }
        for (String number : new String[] {"100", "101", "199", "999", "000", "001", "0099", "1000"}) {
            refused("ab " + number + ";", 3, 2);
            refused("ab " + number, 3, 2);
        }
        refused("ab " + Due.times(477, "0"), 3, 2);
        refused("ab " + Due.times(476, "1") + ";", 3, 2);
        refused("ab 4294967297;", 3, 2);
        refused("ab 18446744073709551617;", 3, 2);
    }

    /** "a text of at most 480 bytes": what the TAPE has at most is taken, too, and its end has a place. */
    private static void longLists() {
        taken(Due.times(476, " ") + "a 5;", 1);
        taken("a" + Due.times(478, "\n").substring(1) + "5;", 1);
        refused(Due.times(477, " ") + "a 5", 480, 1);
        refused("a" + Due.times(479, " "), 480, 1);
        refused(Due.times(479, " ") + "a", 480, 1);
        refused(Due.times(479, " ") + ";", 479, 1);
        taken(Due.times(480, " "), 0);
        StringBuilder forty = new StringBuilder();
        for (int w = 0; w < 40; w++) {
            forty.append("abcdefg").append((char) ('a' + w / 26)).append((char) ('a' + w % 26)).append("99;");
        }
        taken(forty + Due.times(480 - forty.length(), " "), 40);
        LostLetters x = new LostLetters();
        Due.list(x, forty.toString());
        Due.due("27: letters of all WORDS at most", x.count(1), 360);
        Due.due("27: WEIGHTS at most", x.count(2), 3960);
    }

    private static boolean isBlank(int b) {
        return b == 32 || b == 10;
    }

    private static boolean isSmall(int b) {
        return b >= 'a' && b <= 'z';
    }

    private static boolean isDigit(int b) {
        return b >= '0' && b <= '9';
    }

    /** "with blanks (32, 10) between TOKENS or not; TOKENS: small letters, digits, ..; ;": each byte at each place. */
    private static void eachByte() {
        for (int b = 0; b < 256; b++) {
            char c = (char) b;
            if (isBlank(b) || isSmall(b)) {
                taken(c + "a5;", 1);
            } else {
                refused(c + "a5;", 0, 1);
            }
            if (isBlank(b) || isSmall(b) || isDigit(b)) {
                taken("a" + c + "5;", 1);
            } else {
                refused("a" + c + "5;", 1, 1);
            }
            if (isBlank(b) || isDigit(b)) {
                taken("a5" + c + ";", 1);
            } else {
                refused("a5" + c + ";", b == ';' ? 3 : 2, 1);
            }
            if (isBlank(b)) {
                taken("a5;" + c, 1);
            } else if (isSmall(b)) {
                refused("a5;" + c, b == 'a' ? 3 : 4, b == 'a' ? 3 : 1);
            } else {
                refused("a5;" + c, 3, 1);
            }
        }
    }

    /** "TOKENS: small letters, digits, as far as these go on": a blank ends one. */
    private static void tokens() {
        taken("ab12;cd34;", 2);
        refused("a b12;", 2, 1);
        refused("ab1 2;", 4, 1);
        refused("ab12;cd3 4;", 9, 1);
        refused("ab\n\ncd12;", 4, 1);
    }

    /** "1 what can't stand there (its place: where it begins; the end: how many bytes there are)". */
    private static void misplaced() {
        taken("", 0);
        taken(" ", 0);
        taken("ab12;", 1);
        refused("ab12", 4, 1);
        refused("ab1", 3, 1);
        refused("ab ", 3, 1);
        refused("ab", 2, 1);
        refused("a", 1, 1);
        refused("ab12 \n ", 7, 1);
        refused("ab 12;cd", 8, 1);
        refused("ab;", 2, 1);
        refused(";", 0, 1);
        refused("12 ab;", 0, 1);
        refused("ab 12 cde;", 6, 1);
        refused("ab 12 345;", 6, 1);
        refused("ab 12;;", 6, 1);
        refused("ab 12; ;", 7, 1);
        refused("ab 12; 345;", 7, 1);
    }

    /** "3 a WORD told already (at it)". */
    private static void toldAlready() {
        taken("ab1;abc1;a1;b1;ba1;", 5);
        taken("abcdefghi1;abcdefghh1;abcdefgh1;", 3);
        refused("ab1;ab1;", 4, 3);
        refused("ab1; ab 2;", 5, 3);
        refused("a1;b1;c1;a", 9, 3);
        refused("abcdefghi1;abcdefghi1;", 11, 3);
        refused(Due.words(39) + "aa9;", 156, 3);
        refused(Due.words(39) + "bm9;", 156, 3);
        taken(Due.words(39) + "bn9;", 40);
        // of the LIST that is told, not of the old one
        taken("old 7;", 1);
        LostLetters x = OLD.get();
        Due.due("4: refused", Due.list(x, "new 1; new 2;"), Due.fault(7, 3));
        Due.due("4: what was refused is not told", Due.list(x, "new 1;"), 1);
    }

    /** "FAULT, the first along the text, of one TOKEN the least". */
    private static void firstFault() {
        refused("a0;b0;", 1, 2);
        refused("a0;a0;", 1, 2);
        refused("a1;a0;", 3, 3);
        refused("a1;abcdefghij;", 3, 2);
        refused("a;abcdefghij;", 1, 1);
        refused("abcdefghij;", 0, 2);
        refused("a abcdefghij;", 2, 1);
        refused("a1 100;", 3, 1);
        refused("a1 a1;", 3, 1);
        refused("100;", 0, 1);
        refused(Due.words(40) + "aa", 160, 3);
        refused(Due.words(40) + "abcdefghij", 160, 2);
        refused(Due.words(40) + "100", 160, 1);
        refused(Due.words(40) + ";", 160, 1);
        refused(Due.words(39) + "zz0;zy1;", 158, 2);
        refused(Due.words(39) + "zz1;zy0;", 160, 4);
    }

    /** "-2 less (8 * place + kind) of the FAULT": the TAPE is empty then. */
    private static void emptyThen() {
        LostLetters x = OLD.get();
        Due.due("4: refused", Due.list(x, "ab"), -19);
        Due.due("4: empty", x.count(3), 0);
        Due.due("4: empty: nothing is cut", x.end(1), -1);
        Due.due("4: empty: the first byte is the first", Due.list(x, "q"), Due.fault(1, 1));
        Due.due("4: the old one stays", x.word(1, 1), 8);
        Due.due("4: an empty TAPE: no WORDS", x.list(), 0);
        Due.due("4: none of the old ones", x.count(0), 0);
        Due.due("4: of a letter nothing FITS", x.fits(0), 0);
    }

    /** "WIDTH of a letter: i, j, l 1; m, w 3; others 2." */
    private static void widths() {
        LostLetters x = new LostLetters();
        StringBuilder all = new StringBuilder();
        for (char c = 'a'; c <= 'z'; c++) {
            all.append(c).append("1;");
        }
        Due.list(x, all.toString());
        for (int w = 0; w < 26; w++) {
            int width = "ijl".indexOf('a' + w) >= 0 ? 1 : "mw".indexOf('a' + w) >= 0 ? 3 : 2;
            Due.due("9: WIDTH of " + (char) ('a' + w), x.word(w, 2), width);
        }
        Due.list(x, "mmmmmmmmm1;iiiiiiiii1;");
        Due.due("9: the greatest WIDTHS", x.word(0, 2), 27);
        Due.due("9: nine of the least", x.word(1, 2), 9);
    }

    /** "10 to 18: its letters (0 to 25; NONE behind the last); NONE: others." */
    private static void words() {
        Supplier<LostLetters> two = () -> Due.told("az 7; abcdefghi 99;", "a");
        LostLetters x = two.get();
        Due.due("9: 0", x.word(0, 10), 0);
        Due.due("9: 25", x.word(0, 11), 25);
        for (int what = 12; what < 20; what++) {
            Due.due("9: behind the last", x.word(0, what), -1);
        }
        for (int what = 10; what < 19; what++) {
            Due.due("9: its letters", x.word(1, what), what - 10);
        }
        int[] none = {-1, 3, 4, 5, 6, 7, 8, 9, 19, 20, Integer.MAX_VALUE, Integer.MIN_VALUE, Integer.MIN_VALUE + 9};
        for (int what : none) {
            Due.refused("9: what " + what, two, y -> y.word(1, what), -1);
        }
        for (int word : new int[] {-1, 2, 3, 39, 40, Integer.MAX_VALUE, Integer.MIN_VALUE}) {
            for (int what : new int[] {0, 1, 2, 10, 18}) {
                Due.refused("9: WORD " + word, two, y -> y.word(word, what), -1);
            }
        }
        for (int what = 0; what < 20; what++) {
            Due.due("9: no WORDS at all", new LostLetters().word(0, what), -1);
        }
    }

    public static void main(String[] args) {
        newObject();
        feeds();
        feedsBehindAnEnd();
        bytesOfFeeds();
        ends();
        manyWords();
        longWords();
        weights();
        longLists();
        eachByte();
        tokens();
        misplaced();
        toldAlready();
        firstFault();
        emptyThen();
        widths();
        words();
        Due.finish("BoundsOfListTest");
    }
}
