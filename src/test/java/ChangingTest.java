/** Promises 6 to 8, 26 and 27: RULES, readings, losses, copies, counts. */
public final class ChangingTest {
    private static final int ALL = (1 << 26) - 1;

    private static void rules() {
        LostLetters x = Due.told("ab 5; a 3; b 4;", "a/b");
        Due.due("6: at first", x.fits(0), 2);
        Due.due("6: what it was", x.rule(0, 0), 1);
        Due.due("6: a WORD ends", x.fits(0), 1);
        Due.due("6: what it was", x.rule(0, 0), 0);
        Due.due("6: others", x.rule(0, 2), -1);
        Due.due("6: others", x.rule(0, -1), -1);
        Due.due("6: others", x.rule(3, 1), -1);
        Due.due("6: others", x.rule(-1, 1), -1);
        Due.due("6: stays", x.count(7), 0);
        Due.due("6: of another one", x.count(8), 1);
        Due.due("6: what it was", x.rule(0, 1), 0);
        Due.due("6: goes on again", x.fits(0), 2);
    }

    private static void readings() {
        LostLetters x = Due.told("ab 5; a 3; b 4;", "a.[abd](1){2}:/");
        Due.due("7: READ already", x.reads(0, 0, 0), false);
        Due.due("7: READ already", x.reads(0, 0, 1), false);
        Due.due("7: TRACE has not", x.reads(0, 2, 2), false);
        Due.due("7: no letter", x.reads(0, 1, 26), false);
        Due.due("7: no letter", x.reads(0, 1, -1), false);
        Due.due("7: no letter", x.reads(0, 2, 32), false);
        for (int s = 3; s < 8; s++) {
            Due.due("7: GAPS, marks, none", x.reads(0, s, 0), false);
            Due.due("8: GAPS, marks, none", x.loses(0, s), false);
        }
        Due.due("7: none such", x.reads(0, -1, 0), false);
        Due.due("7: none such", x.reads(3, 1, 0), false);
        Due.due("7: none such", x.reads(-1, 1, 0), false);
        Due.due("7: LOST", x.reads(0, 1, 25), true);
        Due.due("7: READ", x.sign(0, 1, 0), 0);
        Due.due("7: READ", x.sign(0, 1, 1), 1 << 25);
        Due.due("7: TRACE has", x.reads(0, 2, 3), true);
        Due.due("7: READ", x.sign(0, 2, 0), 0);
        Due.due("7: READ", x.sign(0, 2, 1), 8);
        Due.due("7: nothing FITS now", x.fits(0), 0);
    }

    private static void losses() {
        LostLetters x = Due.told("ab 5; a 3; b 4;", "z.[xyz]");
        Due.due("8: nothing FITS", x.fits(0), 0);
        Due.due("8: LOST already", x.loses(0, 1), false);
        Due.due("8: READ", x.loses(0, 0), true);
        Due.due("8: LOST", x.sign(0, 0, 0), 1);
        Due.due("8: LOST", x.sign(0, 0, 1), ALL);
        Due.due("8: TRACE", x.loses(0, 2), true);
        Due.due("8: LOST", x.sign(0, 2, 0), 1);
        Due.due("8: LOST", x.sign(0, 2, 1), ALL);
        Due.due("8: none such", x.loses(0, 3), false);
        Due.due("8: none such", x.loses(0, -1), false);
        Due.due("8: none such", x.loses(3, 0), false);
        Due.due("8: none such", x.loses(-1, 0), false);
        Due.due("8: 8 rows of WORDS of one letter, 4 with ab", x.fits(0), 12);
        Due.due("7: READ again", x.reads(0, 0, 0), true);
        Due.due("7: a, two LOST: 5 behind a, 2 behind ab", x.fits(0), 7);
    }

    private static void copies() {
        LostLetters x = Due.told("ab 5; a 3; b 4;", "a/[bc](2)");
        x.rule(0, 0);
        Due.due("26: one fit ahead", x.fits(1), 1);
        Due.due("26: copy", x.copy(0, 1), true);
        Due.due("26: SIGNS", x.count(5), 4);
        Due.due("26: RULE", x.count(8), 0);
        Due.due("26: counted anew", x.fits(1), 5);
        Due.due("26: GAP", x.gap(1, 0, 2), 5);
        x.loses(0, 0);
        Due.due("26: the other one stays", x.sign(1, 0, 0), 0);
        x.rule(1, 1);
        Due.due("26: the one stays", x.count(7), 0);
        Due.due("26: itself", x.copy(1, 1), false);
        Due.due("26: others", x.copy(3, 1), false);
        Due.due("26: others", x.copy(0, 3), false);
        Due.due("26: others", x.copy(-1, 0), false);
        Due.due("26: others", x.copy(0, -1), false);
        Due.due("26: others, the same", x.copy(3, 3), false);
        Due.due("26: an empty one", x.copy(2, 0), true);
        Due.due("26: empty", x.count(4), 0);
        Due.due("26: its RULE", x.count(7), 1);
    }

    private static void counts() {
        LostLetters x = Due.told("ab 5; a 3; bcd 40;", "a.b");
        Due.inscribe(x, 1, "(3)");
        Due.inscribe(x, 2, "[ab]:");
        x.rule(1, 0);
        Due.put(x, "abcde");
        int[] want = {3, 6, 48, 5, 3, 1, 2, 1, 0, 1};
        for (int what = 0; what < 10; what++) {
            Due.due("27: count(" + what + ")", x.count(what), want[what]);
        }
        Due.due("27: others", x.count(10), -1);
        Due.due("27: others", x.count(-1), -1);
        Due.due("27: others", x.count(Integer.MAX_VALUE), -1);
        Due.due("27: others", x.count(Integer.MIN_VALUE), -1);
    }

    public static void main(String[] args) {
        rules();
        readings();
        losses();
        copies();
        counts();
        Due.finish("ChangingTest");
    }
}
