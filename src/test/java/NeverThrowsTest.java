import java.util.Random;

/**
 * Any calls with any arguments, at the document's limits, too: nothing but NoSuchElementException of
 * fit and fitAt reaches the caller, and a second object that gets the same calls answers the same.
 */
public final class NeverThrowsTest {
    private static final int[] EDGES = {
        0, 1, 2, 3, 5, 8, 10, 12, 24, 25, 26, 31, 32, 40, 59, 60, 61, 63, 64, 96, 480, -1, -2, -3,
        Integer.MAX_VALUE, Integer.MIN_VALUE
    };
    private static final String LIST_BYTES = "aabbcilmwz0123459;;;; \n";
    private static final String TEXT_BYTES = "aabbcilmwz..::/[]()[]{}--0112234";

    private final Random random;
    private final LostLetters x = new LostLetters();
    private final LostLetters y = new LostLetters();

    private NeverThrowsTest(long seed) {
        random = new Random(seed);
    }

    private int any() {
        return random.nextInt(4) == 0 ? EDGES[random.nextInt(EDGES.length)] : random.nextInt(14);
    }

    private int one() {
        return random.nextInt(12) == 0 ? any() : random.nextInt(3);
    }

    private String bytes(String of, int most) {
        StringBuilder text = new StringBuilder();
        int many = random.nextInt(most + 1);
        for (int i = 0; i < many; i++) {
            text.append(of.charAt(random.nextInt(of.length())));
        }
        return text.toString();
    }

    private String words() {
        StringBuilder text = new StringBuilder();
        int many = random.nextInt(41);
        int letters = 1 + random.nextInt(9);
        int kinds = 1 + random.nextInt(26);
        for (int w = 0; w < many; w++) {
            for (int i = 0; i < letters; i++) {
                text.append((char) ('a' + random.nextInt(kinds)));
            }
            text.append(1 + random.nextInt(99)).append(";");
        }
        return text.toString();
    }

    private String signs() {
        String[] some = {".", "a", "b", "[abc]", "(0-12)", "{0-24}", ":", "/", "(3)", "{7-9}", ".", "."};
        StringBuilder text = new StringBuilder();
        int many = random.nextInt(64);
        for (int i = 0; i < many; i++) {
            String sign = some[random.nextInt(some.length)];
            text.append(i > 12 && sign.length() > 1 ? "." : sign);
        }
        return text.toString();
    }

    private void change() {
        String text;
        switch (random.nextInt(4)) {
            case 0:
                text = bytes(LIST_BYTES, 60);
                break;
            case 1:
                text = bytes(TEXT_BYTES, 12);
                break;
            case 2:
                text = words();
                break;
            default:
                text = signs();
                break;
        }
        int i = one();
        boolean list = random.nextBoolean();
        for (LostLetters z : new LostLetters[] {x, y}) {
            z.end(0);
            Due.put(z, text);
        }
        Due.due("change", list ? x.list() : x.inscribe(i), list ? y.list() : y.inscribe(i));
    }

    private static long call(LostLetters z, int which, int[] a, long k) {
        switch (which) {
            case 0: return z.feed(k, a[1], a[2]);
            case 1: return z.end(a[1]);
            case 2: return z.rule(a[0], a[1]);
            case 3: return z.reads(a[0], a[1], a[2]) ? 1 : 0;
            case 4: return z.loses(a[0], a[1]) ? 1 : 0;
            case 5: return z.word(a[1], a[2]);
            case 6: return z.sign(a[0], a[1], a[2]);
            case 7: return z.fits(a[0]);
            case 8: return Due.fit(z, a[0], k, a[1]);
            case 9: return Due.fitAt(z, a[0], k, a[1]);
            case 10: return z.heaviest(a[0], a[1]);
            case 11: return z.letters(a[0], a[1]);
            case 12: return z.by(a[0], a[1], a[2]);
            case 13: return z.share(a[0], a[1], a[2]);
            case 14: return z.gap(a[0], a[1], a[2]);
            case 15: return z.signs(a[0], a[1]);
            case 16: return z.words(a[0], a[1]);
            case 17: return z.stuck(a[0], a[1]);
            case 18: return z.would(a[0], a[1], a[2]);
            case 19: return z.ask(a[0]);
            case 20: return z.wrong(a[0], a[1]);
            case 21: return z.restored(a[0], a[1]);
            case 22: return z.copy(a[0], a[1]) ? 1 : 0;
            default: return z.count(a[1]);
        }
    }

    /** Of the two objects one is asked once more in between, which must not change its answers. */
    private void ask() {
        int which = random.nextInt(24);
        int[] a = {one(), any(), any()};
        long k = random.nextInt(3) == 0 ? random.nextLong() : random.nextInt(20);
        call(y, 7 + random.nextInt(15), new int[] {one(), any(), any()}, random.nextInt(5));
        Due.due("call " + which, call(x, which, a, k), call(y, which, a, k));
    }

    private void run() {
        for (int turn = 0; turn < 250; turn++) {
            if (random.nextInt(6) == 0) {
                change();
            } else {
                ask();
            }
        }
    }

    private static void limits() {
        StringBuilder list = new StringBuilder();
        for (int w = 0; w < 40; w++) {
            list.append((char) ('a' + w / 26)).append((char) ('a' + w % 26)).append("iiiiiii99;");
        }
        String text = "{0-24}{0-24}{0-24}{0-24}{0-24}{0-24}" + "......................................................";
        LostLetters x = Due.told(list.toString(), text);
        Due.due("60 SIGNS", x.count(4), 60);
        Due.due("40 WORDS", x.count(1), 360);
        for (int i : EDGES) {
            for (int j : EDGES) {
                for (int which = 2; which < 24; which++) {
                    call(x, which, new int[] {0, i, j}, j);
                }
            }
        }
        Due.inscribe(x, 0, "z");
        Due.due("what could be there", x.stuck(0, 2), Due.bits("ab"));
    }

    public static void main(String[] args) {
        // what the machine throws ends the test with exit code 1 by itself
        limits();
        for (int seed = 0; seed < 150; seed++) {
            new NeverThrowsTest(seed).run();
        }
        Due.finish("NeverThrowsTest");
    }
}
