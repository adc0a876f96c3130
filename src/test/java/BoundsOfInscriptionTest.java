import java.util.function.ToLongFunction;

/**
 * The bounds of INSCRIPTIONS, SIGNS, GAPS, NUMBERS and RULES ('Terms', part 1; promises 5 to 8, 10, 26
 * and 27): of each the last that is still taken and the first that is not, and what stays then.
 */
public final class BoundsOfInscriptionTest {
    private static final int ALL = (1 << 26) - 1;

    /** All kinds of SIGNS, and RULE 0: "c.[bey](2-3){4-5}:/", in INSCRIPTION 1; others in 0 and 2. */
    private static LostLetters old() {
        LostLetters x = Due.told("c 1; cb 2; ie 3;", "c.");
        Due.inscribe(x, 1, "c.[bey](2-3){4-5}:/");
        x.rule(1, 0);
        Due.inscribe(x, 2, "[ab]/");
        return x;
    }

    private static void taken(String text, int signs) {
        LostLetters x = old();
        Due.due("5: taken: " + text, Due.inscribe(x, 1, text), signs);
        Due.due("5: the TAPE is empty then: " + text, x.count(3), 0);
        Due.due("5: in place of the old one: " + text, x.count(5), signs);
        Due.due("5: RULE 1 again: " + text, x.count(8), 1);
        Due.due("5: another one stays: " + text, x.count(4), 2);
        Due.due("5: another one stays: " + text, x.count(6), 2);
    }

    private static void refused(String text, int place, int kind) {
        Due.refused("5: refused, the old one stays: " + text, BoundsOfInscriptionTest::old,
                x -> Due.inscribe(x, 1, text), Due.fault(place, kind));
    }

    private static void refusedCall(String call, ToLongFunction<LostLetters> asked, long want) {
        Due.refused(call, BoundsOfInscriptionTest::old, asked, want);
    }

    /** "INSCRIPTIONS 0 to 2"; "NONE: no such one (the TAPE stays)". */
    private static void whichOne() {
        for (int i = 0; i < 3; i++) {
            LostLetters x = old();
            int before = x.count(4 + (i + 1) % 3);
            Due.due("5: taken", Due.inscribe(x, i, "abcde"), 5);
            Due.due("5: that one", x.count(4 + i), 5);
            Due.due("5: not another one", x.count(4 + (i + 1) % 3), before);
        }
        for (int i : Due.noInscriptions()) {
            LostLetters x = old();
            Due.put(x, "a.b");
            String before = Due.seen(x);
            Due.due("5: no such one: " + i, x.inscribe(i), -1);
            Due.due("5: all stays", Due.seen(x).equals(before), true);
            Due.due("5: the TAPE stays", x.count(3), 3);
            Due.due("5: which bytes stay", x.inscribe(0), 3);
            Due.due("5: which bytes stay", x.sign(0, 2, 1), 2);
            Due.put(x, Due.times(97, "a"));
            Due.due("5: no such one, too many bytes: " + i, x.inscribe(i), -1);
            Due.due("5: the TAPE stays", x.count(3), 97);
            x.end(0);
            Due.put(x, "A");
            Due.due("5: no such one, a FAULT: " + i, x.inscribe(i), -1);
            Due.due("5: the TAPE stays", x.count(3), 1);
        }
    }

    /** "each a text of at most 96 bytes"; "NONE: .. more than 96 bytes (it is empty then)". */
    private static void manyBytes() {
        taken("", 0);
        taken(Due.times(11, "[abcdef]") + "[abcde]", 12);
        taken(Due.times(12, "[abcdef]"), 12);
        for (String text : new String[] {
            Due.times(12, "[abcdef]") + "a", Due.times(97, "a"), Due.times(97, " "), Due.times(480, "A")}) {
            refusedCall("5: " + text.length() + " bytes, the old one stays", x -> Due.inscribe(x, 1, text), -1);
            LostLetters x = old();
            Due.inscribe(x, 1, text);
            Due.due("5: the TAPE is empty", x.count(3), 0);
            Due.due("5: empty: nothing is cut", x.end(1), -1);
        }
        // 96 bytes and a FAULT: its place is told
        refused(Due.times(11, "[abcdef]") + "[abcdef", 95, 1);
        refused(Due.times(11, "[abcdef]") + "[abcde]A", 95, 1);
        refused(Due.times(11, "[abcdef]") + "[abcde](", 96, 1);
    }

    private static boolean isSmall(int b) {
        return b >= 'a' && b <= 'z';
    }

    /** "without blanks, of SIGNS": each byte alone, and behind one that is taken. */
    private static void eachByte() {
        for (int b = 0; b < 256; b++) {
            String alone = "" + (char) b;
            if (isSmall(b) || b == '.' || b == ':' || b == '/') {
                taken(alone, 1);
                taken("z" + alone, 2);
            } else if (b == '[' || b == '(' || b == '{') {
                refused(alone, 1, 1);
                refused("z" + alone, 2, 1);
            } else {
                refused(alone, 0, 1);
                refused("z" + alone, 1, 1);
            }
        }
    }

    /** "[ and 2 to 6 letters .. and ]". */
    private static void lettersOfTraces() {
        refused("[]", 1, 1);
        refused("[a]", 2, 1);
        taken("[ab]", 1);
        taken("[abcde]", 1);
        taken("[abcdef]", 1);
        refused("[abcdefg]", 7, 1);
        refused("[abcdefg", 7, 1);
        taken("[uvwxyz]", 1);
        taken("[az]", 1);
        String unfinished = "[abcdef";
        for (int n = 1; n <= unfinished.length(); n++) {
            refused(unfinished.substring(0, n), n, 1);
        }
        LostLetters x = new LostLetters();
        Due.inscribe(x, 0, "[ab][uvwxyz]");
        Due.due("10: the least TRACE", x.sign(0, 0, 1), 3);
        Due.due("10: the greatest TRACE", x.sign(0, 1, 1), 63 << 20);
    }

    /** "each above the one ahead"; "2 a letter of a TRACE not above the one ahead (at it)": each byte there. */
    private static void rowsOfTraces() {
        for (int b = 0; b < 256; b++) {
            String text = "[m" + (char) b + "z]";
            if (b > 'm' && b < 'z') {
                taken(text, 1);
            } else if (b == 'z') {
                refused(text, 3, 2);
            } else {
                refused(text, 2, isSmall(b) ? 2 : 1);
            }
            String last = "[am" + (char) b + "]";
            if (b > 'm' && b <= 'z') {
                taken(last, 1);
            } else {
                refused(last, b == ']' ? 4 : 3, isSmall(b) ? 2 : 1);
            }
        }
        refused("[aa]", 2, 2);
        refused("[ab][zy]", 6, 2);
        refused("[abcdee]", 6, 2);
        refused("[abcdez", 7, 1);
    }

    /** A GAP of letters is "(0 to 12", one of WIDTH "(0 to 24)"; "the second one below the first (at the NUMBER)". */
    private static void numbersOfGaps() {
        gapsOf('(', ')', 12);
        gapsOf('{', '}', 24);
    }

    private static void gapsOf(char open, char close, int most) {
        LostLetters x = new LostLetters();
        for (int first = 0; first < 100; first++) {
            x = new LostLetters();
            String alone = "" + open + first + close;
            Due.due("5: " + alone, Due.inscribe(x, 0, alone), first <= most ? 1 : Due.fault(1, 2));
            if (first <= most) {
                Due.due("10: of one alone just so many", x.sign(0, 0, 2), first);
                Due.due("10: of one alone just so many", x.sign(0, 0, 3), first);
            }
            for (int second = 0; second < 100; second++) {
                String text = "" + open + first + "-" + second + close;
                int want = first > most ? Due.fault(1, 2)
                        : second > most || second < first ? Due.fault(text.indexOf('-') + 1, 2) : 1;
                Due.due("5: " + text, Due.inscribe(x, 1, text), want);
                if (want == 1) {
                    Due.due("10: the least", x.sign(1, 0, 2), first);
                    Due.due("10: the most", x.sign(1, 0, 3), second);
                }
            }
        }
    }

    /** The same, that the old one stays: one case of each. */
    private static void gapsRefused() {
        taken("(12)", 1);
        refused("(13)", 1, 2);
        taken("(0-12)", 1);
        refused("(0-13)", 3, 2);
        refused("(13-13)", 1, 2);
        taken("{24}", 1);
        refused("{25}", 1, 2);
        taken("{0-24}", 1);
        refused("{0-25}", 3, 2);
        refused("a.{25-25}", 3, 2);
        taken("(7-7)", 1);
        refused("(7-6)", 3, 2);
        taken("{12-12}", 1);
        refused("{12-11}", 4, 2);
    }

    /** "NUMBER: one or two digits"; "of three digits and more (at the NUMBER)". */
    private static void digits() {
        taken("(0)", 1);
        taken("(00)", 1);
        refused("(000)", 1, 2);
        refused("()", 1, 1);
        taken("(01-02)", 1);
        refused("(1-002)", 3, 2);
        refused("(1-)", 3, 1);
        refused("(-1)", 1, 1);
        taken("{09}", 1);
        refused("{009}", 1, 2);
        refused("(4294967297)", 1, 2);
        refused("(1-18446744073709551618)", 3, 2);
        refused("(" + Due.times(95, "0"), 1, 2);
        refused("{0-" + Due.times(93, "0"), 3, 2);
        for (int b = 0; b < 256; b++) {
            char c = (char) b;
            boolean digit = b >= '0' && b <= '9';
            String first = "(1" + c + ")";
            if (digit) {
                if (b <= '2') {
                    taken(first, 1);
                } else {
                    refused(first, 1, 2);
                }
            } else {
                refused(first, b == '-' || b == ')' ? 3 : 2, 1);
            }
            String second = "{1-" + c + "}";
            if (b >= '1' && b <= '9') {
                taken(second, 1);
            } else {
                refused(second, 3, b == '0' ? 2 : 1);
            }
        }
        String unfinished = "(10-12";
        for (int n = 1; n <= unfinished.length(); n++) {
            if (n != 5) {
                refused(unfinished.substring(0, n), n, 1);
            }
        }
        // 1 is below 10, and at its place ahead of the end
        refused("(10-1", 4, 2);
        refused("(3}", 2, 1);
        refused("{3)", 2, 1);
        refused("(3-4}", 4, 1);
        refused("{3-4-5}", 4, 1);
    }

    /** "60 SIGNS at most"; "3 a 61st SIGN .. (at its first byte)". */
    private static void manySigns() {
        taken(Due.times(59, "a"), 59);
        for (String last : new String[] {"a", ".", ":", "/", "[ab]", "(0-12)", "{24}"}) {
            taken(Due.times(59, ".") + last, 60);
            refused(Due.times(60, ".") + last, 60, 3);
            refused("[ab]" + Due.times(59, ":") + last, 63, 3);
        }
        refused(Due.times(61, "/"), 60, 3);
        refused(Due.times(96, "a"), 60, 3);
        LostLetters x = new LostLetters();
        Due.inscribe(x, 2, Due.times(59, ".") + "z");
        Due.due("10: the 60th", x.sign(2, 59, 1), 1 << 25);
        Due.due("10: no 61st", x.sign(2, 60, 1), -2);
        Due.due("27: SIGNS at most", x.count(6), 60);
    }

    /** "6 GAPS at most"; "3 .. a seventh GAP (at its first byte)". */
    private static void manyGaps() {
        taken("(1)(1)(1)(1)(1)", 5);
        taken("(1)(1)(1)(1)(1)(1)", 6);
        taken("{1}{1}{1}{1}{1}{1}", 6);
        taken("(1){1}(1){1}(1){1}" + Due.times(54, "."), 60);
        refused("(1)(1)(1)(1)(1)(1)(1)", 18, 3);
        refused("{1}{1}{1}{1}{1}{1}{1}", 18, 3);
        refused("(1)(1)(1){1}{1}{1}..{1}", 20, 3);
        refused("(1)(1)(1){1}{1}{1}..(", 20, 3);
        // those of the one before are no matter
        LostLetters x = old();
        Due.inscribe(x, 0, "(1)(1)(1)(1)(1)(1)");
        Due.due("5: taken behind one of six GAPS", Due.inscribe(x, 0, "(1){1}(1){1}(1){1}"), 6);
        Due.inscribe(x, 0, "(1)(1)(1)(1)(1)(1)(1)");
        Due.due("5: taken behind a refused one", Due.inscribe(x, 0, "(1){1}(1){1}(1){1}"), 6);
        Due.due("18: GAPS are numbered anew", x.gap(0, 6, 0), -1);
    }

    /** "FAULT likewise": the first along the text, of one byte the least. */
    private static void firstFault() {
        refused("A[ba]", 0, 1);
        refused("[ba]A", 2, 2);
        refused("[abcdefa]", 7, 1);
        refused("[abcdeff]", 7, 1);
        refused("(13-99)", 1, 2);
        refused("(13", 1, 2);
        refused("(13]", 1, 2);
        refused("(2-1]", 3, 2);
        refused(Due.times(60, "a") + "]", 60, 1);
        refused(Due.times(60, "a") + " ", 60, 1);
        refused(Due.times(60, "a") + "[ba]", 60, 3);
        refused(Due.times(60, "a") + "(99)", 60, 3);
        refused(Due.times(59, "a") + "[ba]", 61, 2);
        refused("(1)(1)(1)(1)(1)(1)(13)", 18, 3);
        refused("(1)(1)(1)(1)(1)(13)(1)", 16, 2);
        refused("(1)(1)(1)(1)(1)(1)}", 18, 1);
    }

    /** "RULE of an INSCRIPTION: 1 .. (at first), 0 ..": "what it was; NONE: others". */
    private static void rules() {
        LostLetters x = new LostLetters();
        for (int i = 0; i < 3; i++) {
            Due.due("6: 1 at first", x.rule(i, 1), 1);
            Due.due("6: taken", x.rule(i, 0), 1);
            Due.due("6: what it was", x.rule(i, 0), 0);
            Due.due("6: taken", x.rule(i, 1), 0);
            Due.due("6: what it was", x.rule(i, 1), 1);
        }
        for (int rule : new int[] {-1, 2, 3, Integer.MIN_VALUE, Integer.MAX_VALUE}) {
            refusedCall("6: RULE " + rule, y -> y.rule(0, rule), -1);
            refusedCall("6: RULE " + rule, y -> y.rule(1, rule), -1);
        }
        for (int i : Due.noInscriptions()) {
            refusedCall("6: INSCRIPTION " + i, y -> y.rule(i, 0), -1);
            refusedCall("6: INSCRIPTION " + i, y -> y.rule(i, 1), -1);
        }
    }

    private static long reads(LostLetters x, int inscription, int sign, int letter) {
        return x.reads(inscription, sign, letter) ? 1 : 0;
    }

    private static long loses(LostLetters x, int inscription, int sign) {
        return x.loses(inscription, sign) ? 1 : 0;
    }

    /** "A SIGN that is LOST, or a TRACE that has it, is READ as a letter (0 to 25): true; false: others." */
    private static void readings() {
        for (int letter = 0; letter < 26; letter++) {
            int c = letter;
            LostLetters x = old();
            Due.due("7: LOST as " + c, x.reads(1, 1, c), true);
            Due.due("7: READ then", x.sign(1, 1, 0), 0);
            Due.due("7: its letter", x.sign(1, 1, 1), 1 << c);
            Due.due("7: no GAP", x.sign(1, 1, 2), -1);
            Due.due("7: not again", x.reads(1, 1, c), false);
            Due.due("7: RULE stays", x.count(8), 0);
            if ("bey".indexOf('a' + c) >= 0) {
                Due.due("7: a TRACE that has " + c, x.reads(1, 2, c), true);
                Due.due("7: READ then", x.sign(1, 2, 0), 0);
                Due.due("7: its letter", x.sign(1, 2, 1), 1 << c);
                Due.due("7: not as another", x.reads(1, 2, 1), false);
            } else {
                refusedCall("7: a TRACE that has not " + c, y -> reads(y, 1, 2, c), 0);
            }
            refusedCall("7: READ already, as " + c, y -> reads(y, 1, 0, c), 0);
        }
        for (int letter : new int[] {-1, 26, 27, 31, 32, 33, 58, 64, -31, -32, Integer.MIN_VALUE, Integer.MAX_VALUE}) {
            refusedCall("7: letter " + letter, y -> reads(y, 1, 1, letter), 0);
            refusedCall("7: letter " + letter, y -> reads(y, 1, 2, letter), 0);
        }
        for (int sign : new int[] {-1, 3, 4, 5, 6, 7, 59, 60, Integer.MIN_VALUE, Integer.MAX_VALUE}) {
            refusedCall("7: GAPS, marks, none: " + sign, y -> reads(y, 1, sign, 2), 0);
            refusedCall("8: GAPS, marks, none: " + sign, y -> loses(y, 1, sign), 0);
        }
        for (int i : Due.noInscriptions()) {
            refusedCall("7: INSCRIPTION " + i, y -> reads(y, i, 1, 2), 0);
            refusedCall("8: INSCRIPTION " + i, y -> loses(y, i, 0), 0);
        }
        Due.due("7: an INSCRIPTION without SIGNS", new LostLetters().reads(0, 0, 0), false);
        Due.due("8: an INSCRIPTION without SIGNS", new LostLetters().loses(0, 0), false);
    }

    /** What was told before a shorter INSCRIPTION is no SIGN of it. */
    private static void behindTheLast() {
        LostLetters x = old();
        Due.inscribe(x, 1, ".");
        Due.due("7: the last", x.reads(1, 0, 0), true);
        Due.due("7: behind the last", x.reads(1, 2, 1), false);
        Due.due("8: the last", x.loses(1, 0), true);
        Due.due("8: behind the last", x.loses(1, 2), false);
        Due.due("10: behind the last", x.sign(1, 1, 0), -2);
        Due.due("18: no GAP any more", x.gap(1, 0, 2), -1);
        Due.inscribe(x, 1, Due.times(60, "."));
        Due.due("7: the 60th", x.reads(1, 59, 25), true);
        Due.due("7: no 61st", x.reads(1, 60, 25), false);
        Due.due("8: the 60th", x.loses(1, 59), true);
        Due.due("8: no 61st", x.loses(1, 60), false);
    }

    /** "A SIGN that is READ, or a TRACE, is LOST: true; false: others." */
    private static void losses() {
        LostLetters x = old();
        Due.due("8: READ", x.loses(1, 0), true);
        Due.due("8: a TRACE", x.loses(1, 2), true);
        for (int s = 0; s < 3; s++) {
            Due.due("8: LOST then", x.sign(1, s, 0), 1);
            Due.due("8: any letter", x.sign(1, s, 1), ALL);
            Due.due("8: no GAP", x.sign(1, s, 2), -1);
            Due.due("8: not again", x.loses(1, s), false);
        }
        Due.due("8: RULE stays", x.count(8), 0);
        Due.due("8: another one stays", x.sign(0, 0, 0), 0);
        refusedCall("8: LOST already", y -> loses(y, 1, 1), 0);
        Due.due("7: any letter, not those of the old TRACE alone", x.reads(1, 2, 25), true);
        Due.due("8: READ once more", x.loses(1, 2), true);
    }

    /** "2, 3: the least, the most of a GAP (NONE: others); -2: others." */
    private static void signs() {
        LostLetters x = old();
        int[][] want = {{0, 4, -1, -1}, {1, ALL, -1, -1}, {2, 1 << 1 | 1 << 4 | 1 << 24, -1, -1}, {3, 0, 2, 3},
            {4, 0, 4, 5}, {5, 0, -1, -1}, {6, 0, -1, -1}};
        for (int s = 0; s < 7; s++) {
            for (int what = 0; what < 4; what++) {
                Due.due("10: sign(1, " + s + ", " + what + ")", x.sign(1, s, what), want[s][what]);
            }
            for (int what : new int[] {-1, 4, 5, Integer.MIN_VALUE, Integer.MAX_VALUE}) {
                Due.due("10: what " + what, x.sign(1, s, what), -2);
            }
        }
        for (int what = 0; what < 4; what++) {
            for (int sign : new int[] {-1, 7, 59, 60, 61, Integer.MIN_VALUE, Integer.MAX_VALUE}) {
                Due.due("10: SIGN " + sign, x.sign(1, sign, what), -2);
            }
            for (int i : Due.noInscriptions()) {
                Due.due("10: INSCRIPTION " + i, x.sign(i, 0, what), -2);
            }
        }
    }

    /** "An INSCRIPTION (its RULE, too) comes in place of another one: true; false: others, one and itself." */
    private static void copies() {
        for (int from = 0; from < 3; from++) {
            for (int to = 0; to < 3; to++) {
                int f = from;
                int t = to;
                if (from == to) {
                    refusedCall("26: one and itself", x -> x.copy(f, t) ? 1 : 0, 0);
                    continue;
                }
                LostLetters x = old();
                int signs = x.count(4 + from);
                int rule = x.count(7 + from);
                Due.due("26: taken", x.copy(from, to), true);
                for (int i : new int[] {from, to}) {
                    Due.due("26: SIGNS", x.count(4 + i), signs);
                    Due.due("26: its RULE, too", x.count(7 + i), rule);
                }
                for (int s = 0; s <= signs; s++) {
                    for (int what = 0; what < 4; what++) {
                        Due.due("26: SIGNS", x.sign(to, s, what), x.sign(from, s, what));
                    }
                }
                Due.due("26: FITS", x.fits(to), x.fits(from));
            }
        }
        for (int none : Due.noInscriptions()) {
            refusedCall("26: from " + none, x -> x.copy(none, 1) ? 1 : 0, 0);
            refusedCall("26: to " + none, x -> x.copy(1, none) ? 1 : 0, 0);
            refusedCall("26: from and to " + none, x -> x.copy(none, none) ? 1 : 0, 0);
        }
    }

    /** A longer one comes in place of a shorter one, one without SIGNS in place of one that has some. */
    private static void copiesOfAllSizes() {
        LostLetters x = new LostLetters();
        Due.inscribe(x, 0, "{1}(1){1}(1){1}(1)" + Due.times(53, ".") + "[xz]");
        Due.due("26: of 60 SIGNS", x.copy(0, 2), true);
        Due.due("26: the 60th", x.sign(2, 59, 1), 5 << 23);
        Due.due("26: GAPS", x.gap(2, 5, 0), 0);
        Due.due("26: no seventh GAP", x.gap(2, 6, 0), -1);
        Due.due("26: without SIGNS", x.copy(1, 2), true);
        Due.due("26: none left", x.sign(2, 0, 0), -2);
        Due.due("26: no GAP left", x.gap(2, 0, 0), -1);
        Due.due("26: one FIT", x.fits(2), 1);
    }

    /** "NONE for another what." */
    private static void counts() {
        LostLetters x = old();
        Due.put(x, "abc");
        int[] want = {3, 5, 6, 3, 2, 7, 2, 1, 0, 1};
        for (int what = 0; what < 10; what++) {
            Due.due("27: count(" + what + ")", x.count(what), want[what]);
        }
        for (int what : new int[] {-1, 10, 11, -2, Integer.MIN_VALUE, Integer.MAX_VALUE}) {
            Due.due("27: another what: " + what, x.count(what), -1);
        }
    }

    public static void main(String[] args) {
        whichOne();
        manyBytes();
        eachByte();
        lettersOfTraces();
        rowsOfTraces();
        numbersOfGaps();
        gapsRefused();
        digits();
        manySigns();
        manyGaps();
        firstFault();
        rules();
        readings();
        behindTheLast();
        losses();
        signs();
        copies();
        copiesOfAllSizes();
        counts();
        Due.finish("BoundsOfInscriptionTest");
    }
}
