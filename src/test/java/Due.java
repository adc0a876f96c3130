import java.nio.charset.StandardCharsets;
import java.util.NoSuchElementException;
import java.util.function.Supplier;
import java.util.function.ToLongFunction;

/** What the tests share: telling texts, comparing answers, ending with the exit code that is due. */
final class Due {
    /** Stands for a call that throws NoSuchElementException. */
    static final long THROWS = Long.MIN_VALUE;

    private static int checked = 0;
    private static int wrong = 0;

    private Due() {
    }

    static void due(String call, long got, long want) {
        checked++;
        if (got != want) {
            wrong++;
            System.out.println(call + " answered " + got + ", due is " + want);
        }
    }

    static void due(String call, boolean got, boolean want) {
        due(call, got ? 1 : 0, want ? 1 : 0);
    }

    static void finish(String name) {
        System.out.println(name + ": " + checked + " answers, " + wrong + " not as due");
        if (wrong != 0 || checked == 0) {
            System.exit(1);
        }
    }

    static int wrongSoFar() {
        return wrong;
    }

    /** Puts a text on the TAPE, which is empty. */
    static void put(LostLetters x, String text) {
        byte[] bytes = text.getBytes(StandardCharsets.ISO_8859_1);
        for (int at = 0; at < bytes.length; at += 24) {
            x.feed(eight(bytes, at), eight(bytes, at + 8), eight(bytes, at + 16));
        }
        x.end(bytes.length);
    }

    private static long eight(byte[] bytes, int from) {
        long all = 0;
        for (int i = from; i < from + 8; i++) {
            all = all << 8 | (i < bytes.length ? bytes[i] & 255 : 0);
        }
        return all;
    }

    static int list(LostLetters x, String text) {
        put(x, text);
        return x.list();
    }

    static int inscribe(LostLetters x, int inscription, String text) {
        put(x, text);
        return x.inscribe(inscription);
    }

    /** An object with a LIST and INSCRIPTION 0. */
    static LostLetters told(String words, String text) {
        LostLetters x = new LostLetters();
        int listed = list(x, words);
        int inscribed = inscribe(x, 0, text);
        if (listed < 0 || inscribed < 0) {
            throw new IllegalArgumentException(words + " | " + text + ": " + listed + ", " + inscribed);
        }
        return x;
    }

    static int fault(int place, int kind) {
        return -2 - (8 * place + kind);
    }

    static long fit(LostLetters x, int inscription, long k, int what) {
        try {
            return x.fit(inscription, k, what);
        } catch (NoSuchElementException e) {
            return THROWS;
        }
    }

    static long fitAt(LostLetters x, int inscription, long k, int sign) {
        try {
            return x.fitAt(inscription, k, sign);
        } catch (NoSuchElementException e) {
            return THROWS;
        }
    }

    static String restored(LostLetters x, int inscription) {
        StringBuilder text = new StringBuilder();
        for (int i = 0; i < 1000; i++) {
            int b = x.restored(inscription, i);
            if (b < 0) {
                break;
            }
            text.append((char) b);
        }
        return text.toString();
    }

    static void dueRestored(LostLetters x, int inscription, String want) {
        String got = restored(x, inscription);
        due("restored " + got + " where due is " + want, got.equals(want), true);
        due("restored behind " + want, x.restored(inscription, want.length()), LostLetters.NONE);
    }

    static String times(int n, String text) {
        return text.repeat(n);
    }

    /** All WORDS of two letters from aa on, of WEIGHT 9: four bytes each. */
    static String words(int many) {
        StringBuilder text = new StringBuilder();
        for (int w = 0; w < many; w++) {
            text.append((char) ('a' + w / 26)).append((char) ('a' + w % 26)).append("9;");
        }
        return text.toString();
    }

    /** What is no inscription, on each side of the bounds and at the ends of the ints. */
    static int[] noInscriptions() {
        return new int[] {-1, 3, 4, Integer.MIN_VALUE, Integer.MAX_VALUE};
    }

    /** All that can be seen of an object: it has to stay when a call is refused. */
    static String seen(LostLetters x) {
        StringBuilder all = new StringBuilder();
        for (int what = 0; what < 10; what++) {
            all.append(x.count(what)).append(' ');
        }
        int words = x.count(0);
        for (int w = 0; w < words; w++) {
            int letters = x.word(w, 0);
            all.append("| ").append(x.word(w, 1)).append(' ');
            for (int i = 0; i < letters; i++) {
                all.append(x.word(w, 10 + i)).append(' ');
            }
        }
        for (int inscription = 0; inscription < 3; inscription++) {
            int signs = x.count(4 + inscription);
            all.append("/ ").append(x.fits(inscription)).append(' ');
            for (int s = 0; s < signs; s++) {
                all.append(seen(x, inscription, s)).append(' ');
            }
        }
        return all.toString();
    }

    /** No more calls than need be: an object has 512 of them. */
    private static String seen(LostLetters x, int inscription, int sign) {
        int kind = x.sign(inscription, sign, 0);
        if (kind < 3) {
            return kind + "=" + x.sign(inscription, sign, 1);
        }
        return kind > 4 ? "" + kind : kind + "=" + x.sign(inscription, sign, 2) + "-" + x.sign(inscription, sign, 3);
    }

    /** On an object of its own: a call that is refused, and that all stays as it was. */
    static void refused(String call, Supplier<LostLetters> made, ToLongFunction<LostLetters> asked, long want) {
        LostLetters x = made.get();
        String before = seen(x);
        due(call, asked.applyAsLong(x), want);
        String behind = seen(x);
        due(call + ": " + before + " became " + behind, before.equals(behind), true);
    }

    static int bits(String letters) {
        int bits = 0;
        for (int i = 0; i < letters.length(); i++) {
            bits |= 1 << letters.charAt(i) - 'a';
        }
        return bits;
    }
}
