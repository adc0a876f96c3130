import java.math.BigInteger;
import java.util.ArrayList;
import java.util.HashMap;
import java.util.List;
import java.util.Map;
import java.util.Random;

/**
 * Made-up LISTS and INSCRIPTIONS, the same ones each time: every question is answered a second
 * time by laying all FITS one by one, as the document tells it, and compared.
 */
public final class AgainstNaiveTest {
    private static final int MOST_FITS = 1500;
    private static final BigInteger GREATEST = BigInteger.valueOf(Long.MAX_VALUE);

    /** A SIGN as told: its kind, its letters, its bounds. */
    private record Sign(int kind, int mask, int least, int most) {
    }

    /** A FIT as laid. */
    private record Fit(int[] words, int[] at, int letters, int weight) {
    }

    /** Lays all FITS by the choices of the document, in ORDER. */
    private static final class Naive {
        private final List<String> words;
        private final List<Integer> weights;
        private final List<Sign> signs;
        private final int rule;
        private final int without;
        private final List<Fit> fits = new ArrayList<>();
        private final List<Integer> laid = new ArrayList<>();
        private final int[] at;
        private int letters = 0;
        private int reach = 0;
        private int could = 0;
        private boolean tooMany = false;

        Naive(List<String> words, List<Integer> weights, List<Sign> signs, int rule, int without) {
            this.words = words;
            this.weights = weights;
            this.signs = signs;
            this.rule = rule;
            this.without = without;
            this.at = new int[signs.size()];
        }

        Naive laid() {
            arrive(0, NO_WORD, 0);
            return this;
        }

        private static final int NO_WORD = -1;

        private static int width(char c) {
            return "ijl".indexOf(c) >= 0 ? 1 : "mw".indexOf(c) >= 0 ? 3 : 2;
        }

        /** At the beginning of a SIGN, within a WORD (its next letter) or in none. */
        private void arrive(int s, int word, int next) {
            if (tooMany) {
                return;
            }
            if (s > reach) {
                reach = s;
                could = 0;
            }
            if (s == reach) {
                could |= possible(word, next);
            }
            if (s == signs.size()) {
                if (word == NO_WORD) {
                    note();
                }
                return;
            }
            Sign sign = signs.get(s);
            if (sign.kind == 5 || sign.kind == 6) {
                if (word == NO_WORD || (sign.kind == 6 && rule == 1)) {
                    arrive(s + 1, word, next);
                }
            } else {
                within(s, word, next, 0, 0);
            }
        }

        private int possible(int word, int next) {
            if (word != NO_WORD) {
                return 1 << words.get(word).charAt(next) - 'a';
            }
            int bits = 0;
            for (String w : words) {
                bits |= 1 << w.charAt(0) - 'a';
            }
            return bits;
        }

        private void within(int s, int word, int next, int n, int wide) {
            Sign sign = signs.get(s);
            boolean gap = sign.kind == 3 || sign.kind == 4;
            if (gap) {
                int amount = sign.kind == 3 ? n : wide;
                if (amount > sign.most) {
                    return;
                }
                if (amount >= sign.least) {
                    at[s] = n;
                    arrive(s + 1, word, next);
                }
            }
            for (int w = 0; w < words.size(); w++) {
                if (word == NO_WORD ? w == without : w != word) {
                    continue;
                }
                char c = words.get(w).charAt(word == NO_WORD ? 0 : next);
                if (!gap && (sign.mask >> c - 'a' & 1) == 0) {
                    continue;
                }
                place(s, word, w, word == NO_WORD ? 0 : next, gap, new int[] {n, wide});
            }
        }

        private void place(int s, int from, int w, int offset, boolean gap, int[] filled) {
            char c = words.get(w).charAt(offset);
            if (from == NO_WORD) {
                laid.add(w);
            }
            letters++;
            boolean last = offset + 1 == words.get(w).length();
            int then = last ? NO_WORD : w;
            int offsetThen = last ? 0 : offset + 1;
            if (gap) {
                within(s, then, offsetThen, filled[0] + 1, filled[1] + width(c));
            } else {
                at[s] = c - 'a';
                arrive(s + 1, then, offsetThen);
            }
            letters--;
            if (from == NO_WORD) {
                laid.remove(laid.size() - 1);
            }
        }

        private void note() {
            int weight = 0;
            int[] row = new int[laid.size()];
            for (int i = 0; i < row.length; i++) {
                row[i] = laid.get(i);
                weight += weights.get(row[i]);
            }
            fits.add(new Fit(row, at.clone(), letters, weight));
            tooMany = fits.size() > MOST_FITS;
        }
    }

    /** How many FITS, however many, without laying them. */
    private static final class Ways {
        private final List<String> words;
        private final List<Sign> signs;
        private final int rule;
        private final Map<Long, BigInteger> known = new HashMap<>();

        Ways(List<String> words, List<Sign> signs, int rule) {
            this.words = words;
            this.signs = signs;
            this.rule = rule;
        }

        BigInteger from(int s, int amount, int word, int next) {
            long key = ((s * 64L + amount) * 64 + word + 1) * 16 + next;
            BigInteger told = known.get(key);
            if (told == null) {
                told = find(s, amount, word, next);
                known.put(key, told);
            }
            return told;
        }

        private BigInteger find(int s, int amount, int word, int next) {
            if (s == signs.size()) {
                return word < 0 ? BigInteger.ONE : BigInteger.ZERO;
            }
            Sign sign = signs.get(s);
            if (sign.kind >= 5) {
                boolean passes = word < 0 || (sign.kind == 6 && rule == 1);
                return passes ? from(s + 1, 0, word, next) : BigInteger.ZERO;
            }
            BigInteger all = BigInteger.ZERO;
            boolean gap = sign.kind >= 3;
            if (gap && amount >= sign.least && amount <= sign.most) {
                all = from(s + 1, 0, word, next);
            }
            for (int w = 0; w < words.size(); w++) {
                if (word >= 0 && w != word) {
                    continue;
                }
                int offset = word < 0 ? 0 : next;
                char c = words.get(w).charAt(offset);
                boolean last = offset + 1 == words.get(w).length();
                int step = sign.kind == 4 ? Naive.width(c) : 1;
                if (gap ? amount + step <= sign.most : (sign.mask >> c - 'a' & 1) == 1) {
                    all = all.add(from(gap ? s : s + 1, gap ? amount + step : 0,
                        last ? -1 : w, last ? 0 : offset + 1));
                }
            }
            return all;
        }
    }

    private final Random random;
    private List<String> words = new ArrayList<>();
    private List<Integer> weights = new ArrayList<>();
    private List<Sign> signs = new ArrayList<>();
    private int rule = 1;
    private final List<List<Sign>> keptSigns =
        new ArrayList<>(List.of(new ArrayList<>(), new ArrayList<>(), new ArrayList<>()));
    private final int[] keptRules = {1, 1, 1};

    private AgainstNaiveTest(long seed) {
        random = new Random(seed);
    }

    private int below(int n) {
        return random.nextInt(n);
    }

    private String makeList(int most, int length, String alphabet) {
        words = new ArrayList<>();
        weights = new ArrayList<>();
        StringBuilder text = new StringBuilder();
        int many = below(most + 1);
        for (int i = 0; i < many; i++) {
            StringBuilder word = new StringBuilder();
            int letters = 1 + below(length);
            for (int j = 0; j < letters; j++) {
                word.append(alphabet.charAt(below(alphabet.length())));
            }
            if (!words.contains(word.toString())) {
                words.add(word.toString());
                weights.add(1 + below(below(3) == 0 ? 99 : 5));
                text.append(below(3) == 0 ? " " : "").append(word).append(below(2) == 0 ? "\n" : "");
                text.append(weights.get(weights.size() - 1)).append(below(4) == 0 ? " ;" : ";");
            }
        }
        return text.toString();
    }

    private String makeText(int most, int wide, String alphabet) {
        signs = new ArrayList<>();
        StringBuilder text = new StringBuilder();
        int many = below(most + 1);
        int gaps = 0;
        for (int i = 0; i < many; i++) {
            int kind = below(12);
            kind = kind < 3 ? 0 : kind < 6 ? 1 : kind < 8 ? 2 : kind - 5;
            String sign;
            if (kind >= 3 && kind <= 4) {
                sign = gaps < 6 ? makeGap(kind, wide) : ":";
                gaps++;
            } else {
                sign = makeSign(kind, alphabet);
            }
            if (text.length() + sign.length() > 96) {
                break;
            }
            signs.add(parsed(sign));
            text.append(sign);
        }
        return text.toString();
    }

    private String makeGap(int kind, int wide) {
        int bound = Math.min(kind == 3 ? 12 : 24, wide * (kind == 3 ? 1 : 2));
        int least = below(bound + 1);
        int most = least + below(bound + 1 - least);
        String inside = least == most && below(2) == 0 ? "" + least : least + "-" + most;
        return kind == 3 ? "(" + inside + ")" : "{" + inside + "}";
    }

    private String makeSign(int kind, String alphabet) {
        switch (kind) {
            case 0:
                return "" + alphabet.charAt(below(alphabet.length()));
            case 1:
                return ".";
            case 2:
                return makeTrace(alphabet);
            case 5:
                return ":";
            default:
                return "/";
        }
    }

    private String makeTrace(String alphabet) {
        StringBuilder inside = new StringBuilder();
        for (char c = 'a'; c <= 'z' && inside.length() < 6; c++) {
            if (alphabet.indexOf(c) >= 0 ? below(2) == 0 : below(12) == 0) {
                inside.append(c);
            }
        }
        return inside.length() < 2 ? "[yz]" : "[" + inside + "]";
    }

    private static Sign parsed(String sign) {
        char c = sign.charAt(0);
        String inside = sign.length() > 2 ? sign.substring(1, sign.length() - 1) : "";
        switch (c) {
            case '.':
                return new Sign(1, (1 << 26) - 1, -1, -1);
            case '[':
                return new Sign(2, Due.bits(inside), -1, -1);
            case '(':
            case '{':
                String[] ends = inside.split("-");
                return new Sign(c == '(' ? 3 : 4, 0, Integer.parseInt(ends[0]),
                    Integer.parseInt(ends[ends.length - 1]));
            case ':':
                return new Sign(5, 0, -1, -1);
            case '/':
                return new Sign(6, 0, -1, -1);
            default:
                return new Sign(0, Due.bits(sign), -1, -1);
        }
    }

    private Naive naive(List<Sign> along, int without) {
        return new Naive(words, weights, along, rule, without).laid();
    }

    private List<Sign> changed(int s, int kind, int mask) {
        List<Sign> other = new ArrayList<>(signs);
        other.set(s, new Sign(kind, mask, -1, -1));
        return other;
    }

    private static boolean isLettered(Sign sign) {
        return sign.kind <= 2;
    }

    private void compare(LostLetters x, int i) {
        Naive naive = naive(signs, -1);
        if (naive.tooMany) {
            return;
        }
        Due.due("fits", x.fits(i), naive.fits.size());
        compareSigns(x, i);
        compareFits(x, i, naive);
        compareHeaviest(x, i, naive);
        compareLetters(x, i, naive);
        compareGaps(x, i, naive);
        compareSure(x, i, naive);
        compareWords(x, i, naive);
        compareStuck(x, i, naive);
        compareWould(x, i);
        compareWrong(x, i, naive);
        compareRestored(x, i, naive);
    }

    private void compareSigns(LostLetters x, int i) {
        Due.due("SIGNS", x.count(4 + i), signs.size());
        for (int s = 0; s < signs.size(); s++) {
            Sign sign = signs.get(s);
            Due.due("sign 0", x.sign(i, s, 0), sign.kind);
            Due.due("sign 1", x.sign(i, s, 1), sign.mask);
            Due.due("sign 2", x.sign(i, s, 2), sign.least);
            Due.due("sign 3", x.sign(i, s, 3), sign.most);
        }
    }

    private void compareFits(LostLetters x, int i, Naive naive) {
        int size = naive.fits.size();
        int step = 1 + size / 40;
        for (int k = 0; k < size; k += step) {
            Fit fit = naive.fits.get(k);
            Due.due("fit 0", Due.fit(x, i, k, 0), fit.words.length);
            Due.due("fit 1", Due.fit(x, i, k, 1), fit.weight);
            Due.due("fit 2", Due.fit(x, i, k, 2), fit.letters);
            for (int w = 0; w < fit.words.length; w++) {
                Due.due("fit word", Due.fit(x, i, k, 10 + w), fit.words[w]);
            }
            Due.due("fit behind", Due.fit(x, i, k, 10 + fit.words.length), Due.THROWS);
            for (int s = 0; s < signs.size(); s++) {
                Due.due("fitAt", Due.fitAt(x, i, k, s), signs.get(s).kind >= 5 ? Due.THROWS : fit.at[s]);
            }
        }
        Due.due("no such fit", Due.fit(x, i, size, 0), Due.THROWS);
    }

    private void compareHeaviest(LostLetters x, int i, Naive naive) {
        int which = -1;
        int weight = -1;
        for (int k = 0; k < naive.fits.size(); k++) {
            if (naive.fits.get(k).weight > weight) {
                which = k;
                weight = naive.fits.get(k).weight;
            }
        }
        Due.due("heaviest 0", x.heaviest(i, 0), which);
        Due.due("heaviest 1", x.heaviest(i, 1), weight);
    }

    private static int by(Naive naive, int s, int c) {
        int many = 0;
        for (Fit fit : naive.fits) {
            many += fit.at[s] == c ? 1 : 0;
        }
        return many;
    }

    private static int lettersAt(Naive naive, int s) {
        int bits = 0;
        for (Fit fit : naive.fits) {
            bits |= 1 << fit.at[s];
        }
        return bits;
    }

    private void compareLetters(LostLetters x, int i, Naive naive) {
        int asked = -1;
        int fewest = Integer.MAX_VALUE;
        for (int s = 0; s < signs.size(); s++) {
            if (!isLettered(signs.get(s))) {
                Due.due("letters", x.letters(i, s), -1);
                continue;
            }
            Due.due("letters", x.letters(i, s), lettersAt(naive, s));
            int most = 0;
            for (int c = 0; c < 26; c++) {
                int by = by(naive, s, c);
                most = Math.max(most, by);
                Due.due("by", x.by(i, s, c), by);
                float share = naive.fits.isEmpty() ? 0f : (float) by / (float) naive.fits.size();
                Due.due("share", x.share(i, s, c), naive.fits.isEmpty() ? -1 : Float.floatToIntBits(share));
            }
            if (signs.get(s).kind != 0 && most < fewest && !naive.fits.isEmpty()) {
                asked = s;
                fewest = most;
            }
        }
        Due.due("ask", x.ask(i), asked);
    }

    private void compareGaps(LostLetters x, int i, Naive naive) {
        int g = 0;
        for (int s = 0; s < signs.size(); s++) {
            if (signs.get(s).kind == 3 || signs.get(s).kind == 4) {
                for (int n = 0; n <= 24; n++) {
                    Due.due("gap", x.gap(i, g, n), by(naive, s, n));
                }
                g++;
            }
        }
        Due.due("no such gap", x.gap(i, g, 0), -1);
    }

    private void compareSure(LostLetters x, int i, Naive naive) {
        long sure = 0;
        long doubtful = 0;
        long restored = 0;
        for (int s = 0; s < signs.size(); s++) {
            if (isLettered(signs.get(s)) && !naive.fits.isEmpty()) {
                boolean one = Integer.bitCount(lettersAt(naive, s)) == 1;
                sure |= one ? 1L << s : 0;
                doubtful |= one ? 0 : 1L << s;
                restored |= one && signs.get(s).kind != 0 ? 1L << s : 0;
            }
        }
        Due.due("signs 0", x.signs(i, 0), sure);
        Due.due("signs 1", x.signs(i, 1), doubtful);
        Due.due("signs 2", x.signs(i, 2), restored);
    }

    private void compareWords(LostLetters x, int i, Naive naive) {
        long needed = 0;
        long used = 0;
        for (Fit fit : naive.fits) {
            for (int w : fit.words) {
                used |= 1L << w;
            }
        }
        for (int w = 0; w < words.size(); w++) {
            if (!naive.fits.isEmpty() && naive(signs, w).fits.isEmpty()) {
                needed |= 1L << w;
            }
        }
        Due.due("words 0", x.words(i, 0), needed);
        Due.due("words 1", x.words(i, 1), used);
    }

    private void compareStuck(LostLetters x, int i, Naive naive) {
        boolean fits = !naive.fits.isEmpty();
        int why = 0;
        if (!fits) {
            int kind = naive.reach == signs.size() ? 5 : signs.get(naive.reach).kind;
            why = kind <= 2 ? 1 : kind >= 5 ? 2 : 3;
        }
        Due.due("stuck 0", x.stuck(i, 0), naive.reach);
        Due.due("stuck 1", x.stuck(i, 1), why);
        Due.due("stuck 2", x.stuck(i, 2), fits ? 0 : naive.could);
    }

    private void compareWould(LostLetters x, int i) {
        for (int s = 0; s < signs.size(); s++) {
            int c = below(4);
            if (!isLettered(signs.get(s))) {
                Due.due("would", x.would(i, s, c), -1);
                continue;
            }
            Naive other = naive(changed(s, 0, 1 << c), -1);
            if (!other.tooMany) {
                Due.due("would", x.would(i, s, c), other.fits.size());
            }
        }
    }

    /** All sets of SIGNS, the smaller ones first, of equal ones the row ahead first. */
    private boolean findWrong(List<Sign> along, int from, int many, List<Integer> row) {
        if (many == 0) {
            return !new Ways(words, along, rule).from(0, 0, -1, 0).equals(BigInteger.ZERO);
        }
        for (int s = from; s < along.size(); s++) {
            if (along.get(s).kind == 0 || along.get(s).kind == 2) {
                List<Sign> other = new ArrayList<>(along);
                other.set(s, new Sign(1, (1 << 26) - 1, -1, -1));
                row.add(s);
                if (findWrong(other, s + 1, many - 1, row)) {
                    return true;
                }
                row.remove(row.size() - 1);
            }
        }
        return false;
    }

    private void compareWrong(LostLetters x, int i, Naive naive) {
        List<Integer> row = new ArrayList<>();
        boolean found = !naive.fits.isEmpty();
        for (int many = 1; many <= signs.size() && !found; many++) {
            found = findWrong(signs, 0, many, row);
        }
        if (!found) {
            Due.due("wrong, hopeless", x.wrong(i, -1), -3);
            Due.due("wrong, hopeless", x.wrong(i, 0), -3);
            return;
        }
        Due.due("wrong", x.wrong(i, -1), row.size());
        for (int w = 0; w < row.size(); w++) {
            Due.due("wrong one", x.wrong(i, w), row.get(w));
        }
        Due.due("wrong behind", x.wrong(i, row.size()), -1);
    }

    private void compareRestored(LostLetters x, int i, Naive naive) {
        StringBuilder text = new StringBuilder();
        for (int s = 0; s < signs.size(); s++) {
            Sign sign = signs.get(s);
            int bits = isLettered(sign) ? lettersAt(naive, s) : 0;
            if (sign.kind == 0) {
                text.append((char) ('a' + Integer.numberOfTrailingZeros(sign.mask)));
            } else if (isLettered(sign)) {
                char c = (char) ('a' + Integer.numberOfTrailingZeros(bits));
                text.append(Integer.bitCount(bits) == 1 ? "[" + c + "]" : ".");
            } else if (sign.kind <= 4) {
                int n = naive.fits.isEmpty() ? -1 : naive.fits.get(0).at[s];
                boolean all = n >= 0 && by(naive, s, n) == naive.fits.size();
                text.append(all ? "(" + n + ")" : "(?)");
            } else {
                text.append(sign.kind == 5 ? ":" : "/");
            }
        }
        Due.dueRestored(x, i, text.toString());
    }

    private void keep(int i) {
        keptSigns.set(i, new ArrayList<>(signs));
        keptRules[i] = rule;
    }

    private void take(int i) {
        signs = new ArrayList<>(keptSigns.get(i));
        rule = keptRules[i];
    }

    /** One question here, one there: what was found of one INSCRIPTION must not get into another. */
    private void compareByTurns(LostLetters x) {
        for (int turn = 0; turn < 6; turn++) {
            int i = below(3);
            take(i);
            Naive naive = naive(signs, -1);
            if (naive.tooMany) {
                continue;
            }
            switch (below(6)) {
                case 0:
                    compareFits(x, i, naive);
                    break;
                case 1:
                    compareHeaviest(x, i, naive);
                    break;
                case 2:
                    compareGaps(x, i, naive);
                    break;
                case 3:
                    compareWould(x, i);
                    break;
                case 4:
                    compareStuck(x, i, naive);
                    break;
                default:
                    compareLetters(x, i, naive);
                    break;
            }
        }
    }

    private void runSmall() {
        String alphabet = below(2) == 0 ? "ab" : below(2) == 0 ? "aim" : "abilmw";
        LostLetters x = new LostLetters();
        String list = makeList(7, 4, alphabet);
        Due.due("list", Due.list(x, list), words.size());
        String told = list;
        for (int turn = 0; turn < 5; turn++) {
            int i = below(3);
            String text = makeText(9, 3, alphabet);
            rule = 1;
            Due.due("inscribe", Due.inscribe(x, i, text), signs.size());
            told = told + " | " + text;
            compare(x, i);
            if (below(2) == 0) {
                rule = 0;
                x.rule(i, 0);
                compare(x, i);
            }
            if (below(2) == 0 && !signs.isEmpty()) {
                changeOne(x, i);
                compare(x, i);
            }
            if (below(3) == 0) {
                int to = (i + 1 + below(2)) % 3;
                Due.due("copy", x.copy(i, to), true);
                compare(x, to);
                keep(to);
            }
            keep(i);
            compareByTurns(x);
            take(i);
            if (below(4) == 0) {
                list = makeList(7, 4, alphabet);
                Due.due("list", Due.list(x, list), words.size());
                told = told + " | " + list;
                compare(x, i);
            }
        }
        if (Due.wrongSoFar() > 0) {
            System.out.println("with " + told);
            Due.finish("AgainstNaiveTest");
        }
    }

    private void changeOne(LostLetters x, int i) {
        int s = below(signs.size());
        Sign sign = signs.get(s);
        if (below(2) == 0) {
            boolean may = sign.kind == 0 || sign.kind == 2;
            Due.due("loses", x.loses(i, s), may);
            signs = may ? changed(s, 1, (1 << 26) - 1) : signs;
        } else {
            int c = below(3);
            boolean may = sign.kind == 1 || (sign.kind == 2 && (sign.mask >> c & 1) == 1);
            Due.due("reads", x.reads(i, s, c), may);
            signs = may ? changed(s, 0, 1 << c) : signs;
        }
    }

    /** FITS by the million and more: just how many, and that ranks lead to weights that add up. */
    private void runGreat() {
        String alphabet = below(2) == 0 ? "ab" : "abcijmw";
        LostLetters x = new LostLetters();
        Due.due("list", Due.list(x, makeList(30, 3, alphabet)), words.size());
        String text = makeText(20 + below(60), 12, alphabet);
        rule = below(2);
        if (signs.size() > 60) {
            return;
        }
        Due.due("inscribe", Due.inscribe(x, 0, text), signs.size());
        x.rule(0, rule);
        BigInteger ways = new Ways(words, signs, rule).from(0, 0, -1, 0);
        long all = ways.compareTo(GREATEST) > 0 ? -2 : ways.longValue();
        Due.due("great fits of " + text, x.fits(0), all);
        if (all > 0) {
            Due.due("the last", Due.fit(x, 0, all - 1, 0) >= 0, true);
            Due.due("behind the last", Due.fit(x, 0, all, 0), Due.THROWS);
            long k = x.heaviest(0, 0);
            Due.due("the heaviest", Due.fit(x, 0, k, 1), x.heaviest(0, 1));
            compareSums(x, all);
        } else if (all == -2) {
            Due.due("heaviest", x.heaviest(0, 0), -2);
            Due.due("fit", Due.fit(x, 0, 0, 0), Due.THROWS);
            Due.due("signs", x.signs(0, 0), -2);
            Due.due("reach", x.stuck(0, 0), signs.size());
            Due.due("restored", x.restored(0, 0), -2);
        }
    }

    private void compareSums(LostLetters x, long all) {
        int g = 0;
        for (int s = 0; s < signs.size(); s++) {
            Sign sign = signs.get(s);
            long sum = 0;
            for (int c = 0; c < 26 && isLettered(sign); c++) {
                sum += x.by(0, s, c);
            }
            for (int n = 0; n <= 24 && (sign.kind == 3 || sign.kind == 4); n++) {
                sum += x.gap(0, g, n);
            }
            g += sign.kind == 3 || sign.kind == 4 ? 1 : 0;
            Due.due("all at " + s, sum, sign.kind >= 5 ? 0 : all);
            if (isLettered(sign)) {
                Due.due("would", x.would(0, s, 0), x.by(0, s, 0) > 0 || (sign.mask & 1) == 1
                    ? x.by(0, s, 0) : x.would(0, s, 0));
            }
        }
    }

    public static void main(String[] args) {
        int many = args.length > 0 ? Integer.parseInt(args[0]) : 400;
        long seed = args.length > 1 ? Long.parseLong(args[1]) : 1;
        for (int run = 0; run < many; run++) {
            new AgainstNaiveTest(seed * 1000003 + run).runSmall();
            new AgainstNaiveTest(seed * 7000003 + run).runGreat();
        }
        Due.finish("AgainstNaiveTest");
    }
}
