import java.util.ArrayList;
import java.util.List;
import java.util.Random;
import java.util.regex.Matcher;
import java.util.regex.Pattern;

/**
 * Promises 4, 5, 9 and 10 on made-up texts, the same ones each time, right ones and such as have some
 * bytes changed, many at the limits: each is read a second time, as the document tells it ('Terms',
 * part 1), and what is told, the FAULT and what stays are compared.
 */
public final class AgainstSecondParserTest {
    private static final Pattern TOKEN = Pattern.compile("[a-z]+|[0-9]+|[^ \n]");
    private static final Pattern DIGITS = Pattern.compile("[0-9]*");
    private static final String LIST_BYTES = "abz0123456789;;; \n\tA\0\u00ff`{:/";
    private static final String TEXT_BYTES = "abz0123456789[](){}---:/. \n\tA\0\u00ff`|";

    private record Word(String letters, int weight) {
    }

    private record Sign(int kind, int mask, int least, int most) {
    }

    /** What was read, or the FAULT in place of it. */
    private static final class Reading<T> {
        private final List<T> told = new ArrayList<>();
        private int fault = 0;

        private Reading<T> faulty(int place, int kind) {
            fault = Due.fault(place, kind);
            return this;
        }

        private int answer() {
            return fault < 0 ? fault : told.size();
        }
    }

    private static Reading<Word> readList(String text) {
        Reading<Word> out = new Reading<>();
        List<String> seen = new ArrayList<>();
        Matcher token = TOKEN.matcher(text);
        String word = "";
        int turn = 0;
        while (token.find()) {
            String t = token.group();
            int kind = turn == 0 ? faultOfWord(t, seen) : turn == 1 ? faultOfWeight(t) : t.equals(";") ? 0 : 1;
            if (kind != 0) {
                return out.faulty(token.start(), kind);
            }
            if (turn == 0) {
                word = t;
                seen.add(t);
            } else if (turn == 1) {
                out.told.add(new Word(word, Integer.parseInt(t)));
            }
            turn = (turn + 1) % 3;
        }
        return turn == 0 ? out : out.faulty(text.length(), 1);
    }

    private static int faultOfWord(String token, List<String> seen) {
        if (!token.matches("[a-z]+")) {
            return 1;
        }
        if (token.length() > 9) {
            return 2;
        }
        return seen.contains(token) ? 3 : seen.size() == 40 ? 4 : 0;
    }

    private static int faultOfWeight(String token) {
        if (!token.matches("[0-9]+")) {
            return 1;
        }
        return token.matches("0?[1-9]|[1-9][0-9]") ? 0 : 2;
    }

    private static char at(String text, int place) {
        return place < text.length() ? text.charAt(place) : 0;
    }

    private static boolean isSmall(char c) {
        return c >= 'a' && c <= 'z';
    }

    private static Reading<Sign> readText(String text) {
        Reading<Sign> out = new Reading<>();
        int place = 0;
        int gaps = 0;
        while (place < text.length() && out.fault == 0) {
            char c = text.charAt(place);
            boolean gap = c == '(' || c == '{';
            if (!isSmall(c) && ".[({:/".indexOf(c) < 0) {
                return out.faulty(place, 1);
            }
            if (out.told.size() == 60 || (gap && gaps == 6)) {
                return out.faulty(place, 3);
            }
            if (c == '[') {
                place = readTrace(text, place, out);
            } else if (gap) {
                place = readGap(text, place, out);
                gaps++;
            } else {
                int kind = isSmall(c) ? 0 : c == '.' ? 1 : c == ':' ? 5 : 6;
                int mask = kind == 0 ? 1 << c - 'a' : kind == 1 ? (1 << 26) - 1 : 0;
                out.told.add(new Sign(kind, mask, -1, -1));
                place++;
            }
        }
        return out;
    }

    private static int readTrace(String text, int open, Reading<Sign> out) {
        int mask = 0;
        int place = open + 1;
        while (isSmall(at(text, place)) && place - open <= 6) {
            if (place > open + 1 && at(text, place) <= at(text, place - 1)) {
                out.faulty(place, 2);
                return place;
            }
            mask |= 1 << at(text, place) - 'a';
            place++;
        }
        if (place - open < 3 || at(text, place) != ']') {
            out.faulty(place, 1);
        }
        out.told.add(new Sign(2, mask, -1, -1));
        return place + 1;
    }

    private static String digits(String text, int place) {
        Matcher m = DIGITS.matcher(text);
        return place <= text.length() && m.find(place) ? m.group() : "";
    }

    private static int readGap(String text, int open, Reading<Sign> out) {
        boolean letters = text.charAt(open) == '(';
        int bound = letters ? 12 : 24;
        String first = digits(text, open + 1);
        int place = open + 1 + first.length();
        boolean two = at(text, place) == '-';
        String second = two ? digits(text, place + 1) : first;
        if (!inBounds(first, 0, bound)) {
            out.faulty(open + 1, first.isEmpty() ? 1 : 2);
            return place;
        }
        int least = Integer.parseInt(first);
        if (!inBounds(second, least, bound)) {
            out.faulty(place + 1, second.isEmpty() ? 1 : 2);
            return place;
        }
        place += two ? 1 + second.length() : 0;
        if (at(text, place) != (letters ? ')' : '}')) {
            out.faulty(place, 1);
        }
        out.told.add(new Sign(letters ? 3 : 4, 0, least, Integer.parseInt(second)));
        return place + 1;
    }

    private static boolean inBounds(String number, int least, int most) {
        if (number.isEmpty() || number.length() > 2) {
            return false;
        }
        int value = Integer.parseInt(number);
        return value >= least && value <= most;
    }

    private final Random random;
    private final LostLetters x = new LostLetters();
    private List<Word> words = new ArrayList<>();
    private List<Sign> signs = new ArrayList<>();

    private AgainstSecondParserTest(long seed) {
        random = new Random(seed);
    }

    private int below(int n) {
        return random.nextInt(n);
    }

    private String one(String... of) {
        return of[below(of.length)];
    }

    private String letters(int most) {
        StringBuilder all = new StringBuilder();
        for (int n = 1 + below(most); n > 0; n--) {
            all.append(one("a", "b", "c", "z"));
        }
        return all.toString();
    }

    private String makeList() {
        StringBuilder text = new StringBuilder();
        boolean many = below(3) == 0;
        int size = many ? 38 + below(5) : below(9);
        int from = below(600);
        int most = below(2) == 0 ? 4 : 11;
        for (int w = 0; w < size; w++) {
            int n = from + w;
            String word = many ? "" + (char) ('a' + n / 26) + (char) ('a' + n % 26) : letters(most);
            text.append(word).append(one("", "", " ", "\n ")).append(one("1", "9", "99", "07", "10"));
            text.append(one(";", ";", " ;", ";\n"));
        }
        return text.toString();
    }

    private String makeText() {
        StringBuilder text = new StringBuilder();
        int size = below(3) == 0 ? 56 + below(7) : below(14);
        for (int s = 0; s < size; s++) {
            boolean small = size > 30 && below(8) > 0;
            text.append(small ? one("a", "z", ".", ":", "/")
                : one("a", ".", ":", "/", "[ab]", "[abcxyz]", "[bcmz]", "(3)", "(0-12)", "{7}", "{00-24}", "(9-10)"));
        }
        return text.toString();
    }

    private String changed(String text, String bytes, int most) {
        StringBuilder all = new StringBuilder(text);
        for (int n = below(4) == 0 ? 0 : below(3); n > 0; n--) {
            int place = below(all.length() + 1);
            char b = bytes.charAt(below(bytes.length()));
            int how = below(8);
            if (how < 3) {
                all.insert(place, b);
            } else if (how < 5 && place < all.length()) {
                all.setCharAt(place, b);
            } else if (how < 7 && place < all.length()) {
                all.deleteCharAt(place);
            } else {
                all.setLength(place);
            }
        }
        all.setLength(Math.min(all.length(), most));
        return all.toString();
    }

    private void tellList() {
        String text = changed(makeList(), LIST_BYTES, 480);
        Reading<Word> reading = readList(text);
        Due.due("4: list of " + text, Due.list(x, text), reading.answer());
        words = reading.fault < 0 ? words : reading.told;
        int letters = 0;
        int weights = 0;
        for (Word word : words) {
            letters += word.letters.length();
            weights += word.weight;
        }
        Due.due("4: WORDS behind " + text, x.count(0), words.size());
        Due.due("4: letters behind " + text, x.count(1), letters);
        Due.due("4: WEIGHTS behind " + text, x.count(2), weights);
        Due.due("4: the TAPE is empty then", x.count(3), 0);
        if (!words.isEmpty()) {
            compareWord(below(words.size()));
        }
        Due.due("9: behind the last WORD", x.word(words.size(), 0), -1);
    }

    private void compareWord(int w) {
        Word word = words.get(w);
        Due.due("9: letters", x.word(w, 0), word.letters.length());
        Due.due("9: WEIGHT", x.word(w, 1), word.weight);
        for (int i = 0; i < 9; i++) {
            boolean has = i < word.letters.length();
            Due.due("9: a letter", x.word(w, 10 + i), has ? word.letters.charAt(i) - 'a' : -1);
        }
    }

    private void tellText() {
        String text = changed(makeText(), TEXT_BYTES, 480);
        if (text.length() > 96) {
            Due.due("5: more than 96 bytes", Due.inscribe(x, 1, text), -1);
        } else {
            Reading<Sign> reading = readText(text);
            Due.due("5: inscribe of " + text, Due.inscribe(x, 1, text), reading.answer());
            signs = reading.fault < 0 ? signs : reading.told;
        }
        Due.due("5: SIGNS behind " + text, x.count(5), signs.size());
        Due.due("5: the TAPE is empty then", x.count(3), 0);
        if (!signs.isEmpty()) {
            compareSign(below(signs.size()));
            compareSign(signs.size() - 1);
        }
        Due.due("10: behind the last SIGN", x.sign(1, signs.size(), 0), -2);
    }

    private void compareSign(int s) {
        Sign sign = signs.get(s);
        Due.due("10: kind", x.sign(1, s, 0), sign.kind);
        Due.due("10: letters", x.sign(1, s, 1), sign.mask);
        Due.due("10: the least", x.sign(1, s, 2), sign.least);
        Due.due("10: the most", x.sign(1, s, 3), sign.most);
    }

    private void run() {
        for (int turn = 0; turn < 8; turn++) {
            tellList();
            tellText();
        }
    }

    public static void main(String[] args) {
        int many = args.length > 0 ? Integer.parseInt(args[0]) : 2500;
        long seed = args.length > 1 ? Long.parseLong(args[1]) : 1;
        for (int run = 0; run < many && Due.wrongSoFar() < 20; run++) {
            new AgainstSecondParserTest(seed * 1000003 + run).run();
        }
        Due.finish("AgainstSecondParserTest");
    }
}
