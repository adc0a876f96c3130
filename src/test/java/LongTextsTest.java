import java.math.BigInteger;
import java.util.ArrayList;
import java.util.Arrays;
import java.util.HashMap;
import java.util.List;
import java.util.Map;
import java.util.Random;

/**
 * Promises 11 to 25 on INSCRIPTIONS of many SIGNS and LISTS of many WORDS, whose FITS are too many to
 * be laid one by one: each answer is found a second time by counting, without a bound, the FITS in which
 * what is asked is so (the letter stands there, the GAP has so many letters, the WORD is away).
 */
public final class LongTextsTest {
    private static final BigInteger GREATEST = BigInteger.valueOf(Long.MAX_VALUE);
    private static final int ALL = (1 << 26) - 1;
    private static final int NO_WORD = -1;
    private static final int FAR = 1000;
    private static final int EMPTY = -1;

    private record Sign(int kind, int mask, int least, int most) {
        private boolean isLettered() {
            return kind <= 2;
        }

        private boolean isGap() {
            return kind == 3 || kind == 4;
        }

        private boolean has(char c) {
            return (mask >> c - 'a' & 1) == 1;
        }
    }

    /** At a SIGN, of a GAP how many letters it has and how much they fill; within a WORD or in none. */
    private record State(int sign, int letters, int filled, int word, int offset) {
        private static final State FIRST = new State(0, 0, 0, NO_WORD, 0);
    }

    /** One choice of the ORDER: the WORD that begins, the letter that is laid, where that leads. */
    private record Step(int begun, int letter, State to) {
    }

    private static final class Laying {
        private final List<String> words;
        private final List<Sign> signs;
        private final int rule;
        /** A GAP that has to have so many letters, a WORD that is away. */
        private int gap = EMPTY;
        private int wanted = EMPTY;
        private int away = EMPTY;
        private final Map<State, BigInteger> known = new HashMap<>();

        Laying(List<String> words, List<Sign> signs, int rule) {
            this.words = words;
            this.signs = signs;
            this.rule = rule;
        }

        Laying withGap(int sign, int letters) {
            gap = sign;
            wanted = letters;
            return this;
        }

        Laying without(int word) {
            away = word;
            return this;
        }

        private static int width(char c) {
            return "ijl".indexOf(c) >= 0 ? 1 : "mw".indexOf(c) >= 0 ? 3 : 2;
        }

        /** In the ORDER of the document: the end of a GAP first, WORDS by numbers. */
        List<Step> steps(State s) {
            List<Step> all = new ArrayList<>();
            Sign sign = signs.get(s.sign);
            State on = new State(s.sign + 1, 0, 0, s.word, s.offset);
            if (sign.kind >= 5) {
                if (s.word == NO_WORD || (sign.kind == 6 && rule == 1)) {
                    all.add(new Step(EMPTY, EMPTY, on));
                }
                return all;
            }
            boolean enough = s.filled >= sign.least && (s.sign != gap || s.letters == wanted);
            if (sign.isGap() && enough) {
                all.add(new Step(EMPTY, EMPTY, on));
            }
            for (int w = 0; w < words.size(); w++) {
                if (s.word == NO_WORD ? w != away : w == s.word) {
                    addLetter(all, s, w);
                }
            }
            return all;
        }

        private void addLetter(List<Step> all, State s, int w) {
            Sign sign = signs.get(s.sign);
            String word = words.get(w);
            char c = word.charAt(s.offset);
            boolean last = s.offset + 1 == word.length();
            int then = last ? NO_WORD : w;
            int offset = last ? 0 : s.offset + 1;
            int begun = s.word == NO_WORD ? w : EMPTY;
            int filled = s.filled + (sign.kind == 4 ? width(c) : 1);
            if (sign.isGap() && filled <= sign.most) {
                all.add(new Step(begun, c - 'a', new State(s.sign, s.letters + 1, filled, then, offset)));
            } else if (sign.isLettered() && sign.has(c)) {
                all.add(new Step(begun, c - 'a', new State(s.sign + 1, 0, 0, then, offset)));
            }
        }

        BigInteger count() {
            return count(State.FIRST);
        }

        BigInteger count(State s) {
            // how many letters a GAP has is no matter, unless it has to have so many
            State key = s.sign == gap ? s : new State(s.sign, 0, s.filled, s.word, s.offset);
            BigInteger told = known.get(key);
            if (told == null) {
                told = find(s);
                known.put(key, told);
            }
            return told;
        }

        private BigInteger find(State s) {
            if (s.sign == signs.size()) {
                return s.word == NO_WORD ? BigInteger.ONE : BigInteger.ZERO;
            }
            BigInteger all = BigInteger.ZERO;
            for (Step step : steps(s)) {
                all = all.add(count(step.to));
            }
            return all;
        }
    }

    private final Random random;
    /** Told anew for each question, as an object has 512 calls. */
    private LostLetters x = new LostLetters();
    private final List<String> words = new ArrayList<>();
    private final List<Integer> weights = new ArrayList<>();
    private final List<Sign> signs = new ArrayList<>();
    private final StringBuilder list = new StringBuilder();
    private final StringBuilder text = new StringBuilder();
    private int rule = 1;
    private BigInteger ways = BigInteger.ONE;

    private LongTextsTest(long seed) {
        random = new Random(seed);
    }

    private int below(int n) {
        return random.nextInt(n);
    }

    private char letter(String alphabet) {
        return alphabet.charAt(below(alphabet.length()));
    }

    private void makeList(int most, int length, String alphabet) {
        for (int n = 1 + below(most); n > 0; n--) {
            StringBuilder word = new StringBuilder();
            for (int i = 1 + below(length); i > 0; i--) {
                word.append(letter(alphabet));
            }
            int weight = 1 + below(below(2) == 0 ? 99 : 3);
            if (!words.contains(word.toString()) && list.length() + word.length() + 3 <= 480) {
                words.add(word.toString());
                weights.add(weight);
                list.append(word).append(weight).append(';');
            }
        }
    }

    private void makeText(int most, String alphabet) {
        int gaps = 0;
        for (int n = 10 + below(most); n > 0 && signs.size() < 60; n--) {
            int kind = below(20);
            if (kind < 2 && gaps < 6) {
                int bound = kind == 0 ? 12 : 24;
                int least = below(3) == 0 ? 0 : below(bound + 1);
                addGap(3 + kind, least, least + below(bound + 1 - least));
                gaps++;
            } else if (kind < 8) {
                add("" + letter(alphabet), 0, EMPTY);
            } else if (kind < 15) {
                add(".", 1, ALL);
            } else if (kind < 18) {
                add(makeTrace(alphabet), 2, EMPTY);
            } else {
                add(kind == 18 ? ":" : "/", 5, 0);
            }
        }
    }

    /** WORDS one behind the other, of which some letters are lost: most often something FITS. */
    private void makeFitting(int most, String alphabet) {
        int gaps = 0;
        int skipped = 0;
        for (int n = 1 + below(most); n > 0 && signs.size() < 50 && text.length() < 80; n--) {
            String word = words.get(below(words.size()));
            for (char c : word.toCharArray()) {
                int kind = below(24);
                if (skipped > 0) {
                    skipped--;
                } else if (kind == 0 && gaps < 6) {
                    skipped = below(4);
                    addGap(3, Math.max(0, skipped - below(2)) + 1, skipped + 1 + below(2));
                    gaps++;
                } else if (kind < 16) {
                    add("" + c, 0, EMPTY);
                } else if (kind < 20) {
                    add(".", 1, ALL);
                } else {
                    add(makeTrace(alphabet + c), 2, EMPTY);
                }
            }
            if (skipped == 0 && below(4) == 0) {
                add(below(2) == 0 ? ":" : "/", 5, 0);
            }
        }
    }

    private void add(String told, int kind, int mask) {
        if (text.length() + told.length() <= 96) {
            text.append(told);
            int letters = mask == EMPTY ? Due.bits(told.replaceAll("[^a-z]", "")) : mask;
            signs.add(new Sign(told.equals("/") ? 6 : kind, letters, -1, -1));
        }
    }

    private String makeTrace(String alphabet) {
        StringBuilder inside = new StringBuilder();
        for (char c = 'a'; c <= 'z' && inside.length() < 6; c++) {
            if (alphabet.indexOf(c) >= 0 ? below(3) > 0 : below(20) == 0) {
                inside.append(c);
            }
        }
        return inside.length() < 2 ? "[ab]" : "[" + inside + "]";
    }

    private void addGap(int kind, int least, int most) {
        String told = (kind == 3 ? "(" : "{") + least + "-" + most + (kind == 3 ? ")" : "}");
        if (text.length() + told.length() <= 96) {
            text.append(told);
            signs.add(new Sign(kind, 0, least, most));
        }
    }

    private Laying laying() {
        return new Laying(words, signs, rule);
    }

    private Laying changed(int s, Sign sign) {
        List<Sign> others = new ArrayList<>(signs);
        others.set(s, sign);
        return new Laying(words, others, rule);
    }

    private BigInteger by(int s, int c) {
        boolean may = (signs.get(s).mask >> c & 1) == 1;
        return may ? changed(s, new Sign(0, 1 << c, -1, -1)).count() : BigInteger.ZERO;
    }

    private static long told(BigInteger many) {
        return many.compareTo(GREATEST) > 0 ? -2 : many.longValue();
    }

    private void compareFit(Laying laying, long k) {
        List<Integer> laid = new ArrayList<>();
        int[] at = new int[signs.size()];
        BigInteger ahead = BigInteger.valueOf(k);
        int letters = 0;
        int weight = 0;
        State s = State.FIRST;
        while (s.sign < signs.size()) {
            Step taken = null;
            for (Step step : laying.steps(s)) {
                BigInteger many = laying.count(step.to);
                if (ahead.compareTo(many) < 0) {
                    taken = step;
                    break;
                }
                ahead = ahead.subtract(many);
            }
            at[s.sign] = signs.get(s.sign).isGap() ? taken.to.letters > s.letters ? 0 : s.letters : taken.letter;
            letters += taken.letter == EMPTY ? 0 : 1;
            if (taken.begun != EMPTY) {
                laid.add(taken.begun);
                weight += weights.get(taken.begun);
            }
            s = taken.to;
        }
        Due.due("12: WORDS", Due.fit(x, 0, k, 0), laid.size());
        Due.due("12: WEIGHT", Due.fit(x, 0, k, 1), weight);
        Due.due("12: letters", Due.fit(x, 0, k, 2), letters);
        for (int w = 0; w < laid.size(); w++) {
            Due.due("12: a WORD", Due.fit(x, 0, k, 10 + w), laid.get(w));
        }
        for (int i = 0; i < signs.size(); i++) {
            Due.due("13: at SIGN " + i, Due.fitAt(x, 0, k, i), signs.get(i).kind >= 5 ? Due.THROWS : at[i]);
        }
    }

    private int heaviestFrom(Laying laying, State s, Map<State, Integer> known) {
        if (s.sign == signs.size()) {
            return s.word == NO_WORD ? 0 : -FAR * FAR;
        }
        Integer told = known.get(s);
        if (told == null) {
            told = -FAR * FAR;
            for (Step step : laying.steps(s)) {
                int own = step.begun == EMPTY ? 0 : weights.get(step.begun);
                told = Math.max(told, own + heaviestFrom(laying, step.to, known));
            }
            known.put(s, told);
        }
        return told;
    }

    private void compareHeaviest(Laying laying) {
        Map<State, Integer> known = new HashMap<>();
        State s = State.FIRST;
        BigInteger ahead = BigInteger.ZERO;
        int weight = heaviestFrom(laying, s, known);
        int left = weight;
        while (s.sign < signs.size()) {
            State to = null;
            for (Step step : laying.steps(s)) {
                int own = step.begun == EMPTY ? 0 : weights.get(step.begun);
                if (own + heaviestFrom(laying, step.to, known) == left) {
                    left -= own;
                    to = step.to;
                    break;
                }
                ahead = ahead.add(laying.count(step.to));
            }
            s = to;
        }
        Due.due("14: which", x.heaviest(0, 0), told(ahead));
        Due.due("14: its WEIGHT", x.heaviest(0, 1), weight);
    }

    /** Of some SIGNS each letter; what is restored, SURE, DOUBTFUL and asked of all of them. */
    private void compareLetters() {
        StringBuilder restored = new StringBuilder();
        long[] bits = new long[3];
        BigInteger fewest = null;
        int asked = EMPTY;
        for (int s = 0; s < signs.size(); s++) {
            Sign sign = signs.get(s);
            if (!sign.isLettered()) {
                restored.append(sign.kind == 5 ? ":" : sign.kind == 6 ? "/" : restoredGap(s));
                continue;
            }
            BigInteger[] by = new BigInteger[26];
            for (int c = 0; c < 26; c++) {
                by[c] = letterIsTold(c) ? by(s, c) : BigInteger.ZERO;
            }
            int letters = compareSign(s, by);
            boolean one = Integer.bitCount(letters) == 1;
            bits[0] |= one ? 1L << s : 0;
            bits[1] |= Integer.bitCount(letters) > 1 ? 1L << s : 0;
            bits[2] |= one && sign.kind != 0 ? 1L << s : 0;
            char c = (char) ('a' + Integer.numberOfTrailingZeros(sign.kind == 0 ? sign.mask : letters));
            restored.append(sign.kind == 0 ? "" + c : one ? "[" + c + "]" : ".");
            BigInteger most = Arrays.stream(by).reduce(BigInteger.ZERO, BigInteger::max);
            if (sign.kind != 0 && (fewest == null || most.compareTo(fewest) < 0)) {
                fewest = most;
                asked = s;
            }
        }
        for (int what = 0; what < 3; what++) {
            Due.due("19: what " + what, x.signs(0, what), bits[what]);
        }
        Due.due("23: ask", x.ask(0), ways.signum() == 0 ? -1 : asked);
        tellAgain();
        Due.dueRestored(x, 0, restored.toString());
    }

    private boolean letterIsTold(int c) {
        for (String word : words) {
            if (word.indexOf('a' + c) >= 0) {
                return true;
            }
        }
        return false;
    }

    private int compareSign(int s, BigInteger[] by) {
        int letters = 0;
        for (int c = 0; c < 26; c++) {
            letters |= by[c].signum() > 0 ? 1 << c : 0;
        }
        Due.due("15: letters at " + s, x.letters(0, s), letters);
        int c = letters == 0 || below(4) == 0 ? below(26) : Integer.numberOfTrailingZeros(letters);
        Due.due("16: by at " + s, x.by(0, s, c), told(by[c]));
        c = letters == 0 ? below(26) : 31 - Integer.numberOfLeadingZeros(letters);
        Due.due("16: by at " + s, x.by(0, s, c), told(by[c]));
        float share = ways.signum() == 0 ? 0f : (float) by[c].longValue() / (float) ways.longValue();
        Due.due("17: share at " + s, x.share(0, s, c), ways.signum() == 0 ? -1 : Float.floatToIntBits(share));
        return letters;
    }

    private String restoredGap(int s) {
        int g = 0;
        for (int i = 0; i < s; i++) {
            g += signs.get(i).isGap() ? 1 : 0;
        }
        int only = EMPTY;
        int several = 0;
        int asked = below(25);
        for (int n = 0; n <= 24; n++) {
            BigInteger many = laying().withGap(s, n).count();
            if (many.signum() > 0) {
                only = n;
                several++;
            }
            if (many.signum() > 0 || n == asked) {
                Due.due("18: GAP " + g + " of " + n, x.gap(0, g, n), told(many));
            }
        }
        return several == 1 ? "(" + only + ")" : "(?)";
    }

    private void compareWords() {
        long needed = 0;
        long used = 0;
        for (int w = 0; w < words.size(); w++) {
            BigInteger without = laying().without(w).count();
            needed |= ways.signum() > 0 && without.signum() == 0 ? 1L << w : 0;
            used |= without.compareTo(ways) < 0 ? 1L << w : 0;
        }
        Due.due("20: NEEDED", x.words(0, 0), needed);
        Due.due("20: in some", x.words(0, 1), used);
    }

    /** SIGN by SIGN, all states that can be come to. */
    private void compareStuck() {
        if (ways.signum() > 0) {
            Due.due("21: REACH", x.stuck(0, 0), signs.size());
            Due.due("21: WHY", x.stuck(0, 1), 0);
            Due.due("21: what could be there", x.stuck(0, 2), 0);
            return;
        }
        List<State> front = new ArrayList<>(List.of(State.FIRST));
        int reach = 0;
        List<State> next = behind(front);
        while (!next.isEmpty()) {
            front = next;
            reach++;
            next = reach < signs.size() ? behind(front) : new ArrayList<>();
        }
        int kind = reach < signs.size() ? signs.get(reach).kind : 5;
        int could = 0;
        for (State s : front) {
            for (String word : s.word == NO_WORD ? words : List.of(words.get(s.word))) {
                could |= 1 << word.charAt(s.offset) - 'a';
            }
        }
        Due.due("21: REACH", x.stuck(0, 0), reach);
        Due.due("21: WHY", x.stuck(0, 1), kind <= 2 ? 1 : kind >= 5 ? 2 : 3);
        Due.due("21: what could be there", x.stuck(0, 2), could);
    }

    private List<State> behind(List<State> front) {
        Laying laying = laying();
        Map<State, Boolean> seen = new HashMap<>();
        List<State> todo = new ArrayList<>(front);
        List<State> next = new ArrayList<>();
        for (int i = 0; i < todo.size(); i++) {
            for (Step step : laying.steps(todo.get(i))) {
                if (seen.put(step.to, true) == null) {
                    (step.to.sign > front.get(0).sign ? next : todo).add(step.to);
                }
            }
        }
        return next;
    }

    private void compareWould() {
        for (int s = 0; s < signs.size(); s += 1 + below(6)) {
            int c = below(2) == 0 ? words.get(0).charAt(0) - 'a' : below(26);
            boolean may = signs.get(s).isLettered();
            long want = may ? told(changed(s, new Sign(0, 1 << c, -1, -1)).count()) : -1;
            Due.due("22: SIGN " + s + " were " + c, x.would(0, s, c), want);
        }
    }

    /** The fewest SIGNS behind one that are to be LOST besides those that are; no others ahead of it. */
    private int fewest(List<Integer> lost, int behind, State s, Map<State, Integer> known) {
        if (s.sign == signs.size()) {
            return s.word == NO_WORD ? 0 : FAR;
        }
        Integer told = known.get(s);
        if (told == null) {
            told = FAR;
            Sign sign = signs.get(s.sign);
            for (Step step : allLost().steps(s)) {
                boolean wrong = sign.isLettered() && !sign.has((char) ('a' + step.letter)) && !lost.contains(s.sign);
                int own = !wrong ? 0 : s.sign > behind ? 1 : FAR;
                told = Math.min(told, own + fewest(lost, behind, step.to, known));
            }
            known.put(s, told);
        }
        return told;
    }

    private Laying allLost() {
        List<Sign> others = new ArrayList<>();
        for (Sign sign : signs) {
            others.add(sign.isLettered() ? new Sign(1, ALL, -1, -1) : sign);
        }
        return new Laying(words, others, rule);
    }

    /** The row is found SIGN by SIGN: the least with which so few are still enough. */
    private void compareWrong() {
        List<Integer> row = new ArrayList<>();
        int many = fewest(row, -1, State.FIRST, new HashMap<>());
        Due.due("24: how many", x.wrong(0, -1), many >= FAR ? -3 : many);
        if (many >= FAR) {
            return;
        }
        for (int s = 0; s < signs.size() && row.size() < many; s++) {
            row.add(s);
            boolean may = signs.get(s).kind == 0 || signs.get(s).kind == 2;
            if (!may || fewest(row, s, State.FIRST, new HashMap<>()) != many - row.size()) {
                row.remove(row.size() - 1);
            }
        }
        for (int i = 0; i < many; i++) {
            Due.due("24: the " + i + "th", x.wrong(0, i), row.get(i));
        }
        Due.due("24: none such", x.wrong(0, many), -1);
    }

    private void compareTooGreat() {
        int s = below(signs.size());
        boolean may = signs.get(s).isLettered();
        Due.due("12: TOO GREAT", Due.fit(x, 0, 0, 0), Due.THROWS);
        Due.due("13: TOO GREAT", Due.fitAt(x, 0, 0, s), Due.THROWS);
        Due.due("14: TOO GREAT", x.heaviest(0, below(2)), -2);
        Due.due("15: TOO GREAT", x.letters(0, s), may ? -2 : -1);
        Due.due("16: TOO GREAT", x.by(0, s, below(26)), may ? -2 : -1);
        Due.due("17: TOO GREAT", x.share(0, s, below(26)), may ? -2 : -1);
        Due.due("19: TOO GREAT", x.signs(0, below(3)), -2);
        Due.due("20: TOO GREAT", x.words(0, below(2)), -2);
        Due.due("23: TOO GREAT", x.ask(0), -2);
        Due.due("25: TOO GREAT", x.restored(0, 0), -2);
    }

    private void run() {
        String alphabet = new String[] {"ab", "abc", "aijm", "abilmw"}[below(4)];
        makeList(40, 1 + below(9), alphabet);
        if (below(3) == 0) {
            makeText(70, alphabet);
        } else {
            makeFitting(30, alphabet);
        }
        rule = below(2);
        Laying laying = laying();
        ways = laying.count();
        tellAgain();
        Due.due("11: fits", x.fits(0), told(ways));
        compareStuck();
        compareWrong();
        compareWould();
        if (told(ways) < 0) {
            compareTooGreat();
            return;
        }
        if (ways.signum() > 0) {
            tellAgain();
            compareFit(laying, Math.floorMod(random.nextLong(), ways.longValue()));
            tellAgain();
            compareHeaviest(laying);
        }
        compareWords();
        tellAgain();
        compareLetters();
    }

    private void tellAgain() {
        x = new LostLetters();
        Due.due("list", Due.list(x, list.toString()), words.size());
        Due.due("inscribe", Due.inscribe(x, 0, text.toString()), signs.size());
        Due.due("rule", x.rule(0, rule), 1);
    }

    public static void main(String[] args) {
        int many = args.length > 0 ? Integer.parseInt(args[0]) : 150;
        long seed = args.length > 1 ? Long.parseLong(args[1]) : 1;
        for (int run = 0; run < many && Due.wrongSoFar() < 20; run++) {
            LongTextsTest test = new LongTextsTest(seed * 1000003 + run);
            int before = Due.wrongSoFar();
            test.run();
            if (Due.wrongSoFar() > before) {
                System.out.println("with " + test.list + " | " + test.text + ", RULE " + test.rule);
            }
        }
        Due.finish("LongTextsTest");
    }
}
