import java.util.Arrays;
import java.util.NoSuchElementException;

/**
 * Lost letters: broken lines in squared inscriptions restored by width, grid, traces and word
 * lists, all fits counted, doubtful bracketed.
 */
public final class LostLetters {
    public static final int NONE = -1;

    private static final int TOO_GREAT = -2;
    private static final int NO_SUCH_SIGN = -2;
    private static final int HOPELESS = -3;

    private static final int INSCRIPTIONS = 3;
    private static final int MOST_BYTES = 480;
    private static final int MOST_INSCRIBED = 96;
    private static final int MOST_WORDS = 40;
    private static final int MOST_IN_WORD = 9;
    private static final int MOST_WEIGHT = 99;
    private static final int MOST_SIGNS = 60;
    private static final int MOST_GAPS = 6;
    private static final int MOST_LETTERS = 12;
    private static final int MOST_WIDTH = 24;
    private static final int ALPHABET = 26;
    private static final int ALL_LETTERS = (1 << ALPHABET) - 1;
    private static final int[] WIDTH = {
        2, 2, 2, 2, 2, 2, 2, 2, 1, 1, 2, 1, 3, 2, 2, 2, 2, 2, 2, 2, 2, 2, 3, 2, 2, 2
    };

    private static final int READ = 0;
    private static final int LOST = 1;
    private static final int TRACE = 2;
    private static final int LETTER_GAP = 3;
    private static final int WIDTH_GAP = 4;
    private static final int WORD_END = 5;
    private static final int LINE_END = 6;

    private static final int MISPLACED = 1;
    private static final int OUT_OF_BOUNDS = 2;
    private static final int TOLD_ALREADY = 3;
    private static final int WORD_TOO_MANY = 4;
    private static final int SIGN_TOO_MANY = 3;

    /** State 0 is between WORDS; each letter of each WORD has one more, in which it comes next. */
    private static final int STATES = 1 + MOST_WORDS * MOST_IN_WORD;
    /** A GAP of WIDTH may have as many letters as it is wide. */
    private static final int LENGTHS = MOST_WIDTH + 1;
    private static final int MOST_IN_FIT = MOST_SIGNS + MOST_GAPS * MOST_WIDTH;
    /** Of one SIGN, "(24)" is the longest that is restored. */
    private static final int MOST_RESTORED = MOST_SIGNS * 4;

    private final Tape tape = new Tape();
    private Lexicon lexicon = new Lexicon();
    private Lexicon spareLexicon = new Lexicon();
    private final Inscription[] texts = new Inscription[INSCRIPTIONS];
    private final Inscription draft = new Inscription();
    private final Answers[] answers = new Answers[INSCRIPTIONS];
    private final Table counts = new Table(draft, lexicon);
    private final Table others = new Table(draft, lexicon);
    private final Spread spread = new Spread(counts, draft, lexicon);
    private final Path path = new Path(counts, others, draft, lexicon);
    private final Restoration restoration = new Restoration();
    /** The INSCRIPTION whose FITS the table of counts holds. */
    private int counted = NONE;

    public LostLetters() {
        for (int i = 0; i < INSCRIPTIONS; i++) {
            texts[i] = new Inscription();
            answers[i] = new Answers();
        }
    }

    public int feed(long a, long b, long c) {
        return tape.append(a, b, c);
    }

    public int end(int n) {
        return tape.cut(n);
    }

    public int list() {
        int told = spareLexicon.tell(tape);
        tape.cut(0);
        if (told >= 0) {
            Lexicon old = lexicon;
            lexicon = spareLexicon;
            spareLexicon = old;
            for (int i = 0; i < INSCRIPTIONS; i++) {
                forget(i);
            }
        }
        return told;
    }

    public int inscribe(int inscription) {
        if (!isInscription(inscription)) {
            return NONE;
        }
        int told = tape.size > MOST_INSCRIBED ? NONE : draft.tell(tape);
        tape.cut(0);
        if (told >= 0) {
            texts[inscription].become(draft);
            forget(inscription);
        }
        return told;
    }

    public int rule(int inscription, int rule) {
        if (!isInscription(inscription) || rule < 0 || rule > 1) {
            return NONE;
        }
        int old = texts[inscription].rule;
        texts[inscription].rule = rule;
        forget(inscription);
        return old;
    }

    public boolean reads(int inscription, int sign, int letter) {
        if (!isLettered(inscription, sign) || !isLetter(letter)) {
            return false;
        }
        Inscription text = texts[inscription];
        if (text.kind[sign] == READ || !text.has(sign, letter)) {
            return false;
        }
        text.kind[sign] = READ;
        text.mask[sign] = 1 << letter;
        forget(inscription);
        return true;
    }

    public boolean loses(int inscription, int sign) {
        if (!isLettered(inscription, sign) || texts[inscription].kind[sign] == LOST) {
            return false;
        }
        texts[inscription].kind[sign] = LOST;
        texts[inscription].mask[sign] = ALL_LETTERS;
        forget(inscription);
        return true;
    }

    public int word(int word, int what) {
        if (word < 0 || word >= lexicon.size) {
            return NONE;
        }
        if (what == 0) {
            return lexicon.length[word];
        }
        if (what == 1) {
            return lexicon.weight[word];
        }
        if (what == 2) {
            return lexicon.widthOf(word);
        }
        int place = what - 10;
        if (what < 10 || place >= lexicon.length[word]) {
            return NONE;
        }
        return lexicon.letter[lexicon.first[word] + place];
    }

    public int sign(int inscription, int sign, int what) {
        if (!isSign(inscription, sign)) {
            return NO_SUCH_SIGN;
        }
        Inscription text = texts[inscription];
        switch (what) {
            case 0:
                return text.kind[sign];
            case 1:
                return text.mask[sign];
            case 2:
                return text.least[sign];
            case 3:
                return text.most[sign];
            default:
                return NO_SUCH_SIGN;
        }
    }

    public long fits(int inscription) {
        return isInscription(inscription) ? total(inscription) : NONE;
    }

    public int fit(int inscription, long k, int what) throws NoSuchElementException {
        if (!isInscription(inscription) || what < 0 || (what > 2 && what < 10) || !follow(inscription, k)) {
            throw new NoSuchElementException();
        }
        if (what == 0) {
            return path.size;
        }
        if (what == 1) {
            return path.weight;
        }
        if (what == 2) {
            return path.letters;
        }
        if (what - 10 >= path.size) {
            throw new NoSuchElementException();
        }
        return path.told[what - 10];
    }

    public int fitAt(int inscription, long k, int sign) throws NoSuchElementException {
        if (!isSign(inscription, sign) || texts[inscription].isMark(sign) || !follow(inscription, k)) {
            throw new NoSuchElementException();
        }
        return path.here[sign];
    }

    public long heaviest(int inscription, int what) {
        if (!isInscription(inscription) || what < 0 || what > 1) {
            return NONE;
        }
        long all = total(inscription);
        if (all <= 0) {
            return all == 0 ? NONE : TOO_GREAT;
        }
        Answers known = answers[inscription];
        if (!known.knows(Answers.HEAVIEST)) {
            weigh(inscription);
        }
        return what == 0 ? known.heaviestRank : known.heaviestWeight;
    }

    public int letters(int inscription, int sign) {
        if (!isLettered(inscription, sign)) {
            return NONE;
        }
        return total(inscription) < 0 ? TOO_GREAT : spreadOf(inscription).lettersAt(sign);
    }

    public long by(int inscription, int sign, int letter) {
        if (!isLettered(inscription, sign) || !isLetter(letter)) {
            return NONE;
        }
        return total(inscription) < 0 ? TOO_GREAT : spreadOf(inscription).by[sign * ALPHABET + letter];
    }

    public int share(int inscription, int sign, int letter) {
        if (!isLettered(inscription, sign) || !isLetter(letter)) {
            return NONE;
        }
        long all = total(inscription);
        if (all <= 0) {
            return all == 0 ? NONE : TOO_GREAT;
        }
        return bitsOf((float) spreadOf(inscription).by[sign * ALPHABET + letter] / (float) all);
    }

    public long gap(int inscription, int g, int n) {
        if (!isInscription(inscription) || g < 0 || g >= texts[inscription].gaps || n < 0 || n >= LENGTHS) {
            return NONE;
        }
        return total(inscription) < 0 ? TOO_GREAT : spreadOf(inscription).gapBy[g * LENGTHS + n];
    }

    public long signs(int inscription, int what) {
        if (!isInscription(inscription) || what < 0 || what > 2) {
            return NONE;
        }
        if (total(inscription) < 0) {
            return TOO_GREAT;
        }
        Inscription text = texts[inscription];
        Answers known = spreadOf(inscription);
        long bits = 0;
        for (int s = 0; s < text.size; s++) {
            int several = Integer.bitCount(known.lettersAt(s));
            boolean asked = what == 1 ? several > 1 : several == 1 && (what == 0 || text.kind[s] != READ);
            if (asked) {
                bits |= 1L << s;
            }
        }
        return bits;
    }

    public long words(int inscription, int what) {
        if (!isInscription(inscription) || what < 0 || what > 1) {
            return NONE;
        }
        long all = total(inscription);
        if (all <= 0) {
            return all == 0 ? 0 : TOO_GREAT;
        }
        Answers known = answers[inscription];
        if (what == 0) {
            if (!known.knows(Answers.NEEDED)) {
                known.needed = measured(Measure.NEEDED, inscription);
                known.learns(Answers.NEEDED);
            }
            return known.needed;
        }
        if (!known.knows(Answers.USED)) {
            known.used = measured(Measure.USED, inscription);
            known.learns(Answers.USED);
        }
        return known.used;
    }

    public int stuck(int inscription, int what) {
        if (!isInscription(inscription) || what < 0 || what > 2) {
            return NONE;
        }
        Inscription text = texts[inscription];
        if (total(inscription) != 0) {
            return what == 0 ? text.size : 0;
        }
        Answers known = spreadOf(inscription);
        if (what == 0) {
            return known.reach;
        }
        return what == 1 ? text.whyStuckAt(known.reach) : known.could;
    }

    public long would(int inscription, int sign, int letter) {
        if (!isLettered(inscription, sign) || !isLetter(letter)) {
            return NONE;
        }
        Inscription text = texts[inscription];
        int mask = text.mask[sign];
        text.mask[sign] = 1 << letter;
        long ways = measured(Measure.COUNT, inscription);
        text.mask[sign] = mask;
        return ways;
    }

    public int ask(int inscription) {
        if (!isInscription(inscription)) {
            return NONE;
        }
        long all = total(inscription);
        if (all <= 0) {
            return all == 0 ? NONE : TOO_GREAT;
        }
        Inscription text = texts[inscription];
        Answers known = spreadOf(inscription);
        int asked = NONE;
        long fewest = 0;
        for (int s = 0; s < text.size; s++) {
            if (text.kind[s] == LOST || text.kind[s] == TRACE) {
                long most = known.mostAt(s);
                if (asked == NONE || most < fewest) {
                    asked = s;
                    fewest = most;
                }
            }
        }
        return asked;
    }

    public int wrong(int inscription, int i) {
        if (!isInscription(inscription) || i < NONE) {
            return NONE;
        }
        Answers known = answers[inscription];
        if (!known.knows(Answers.WRONG)) {
            known.wrong = measured(Measure.WRONG, inscription);
            known.learns(Answers.WRONG);
        }
        if (known.wrong < 0) {
            return HOPELESS;
        }
        return i == NONE ? Long.bitCount(known.wrong) : known.wrongSign(i);
    }

    public int restored(int inscription, int i) {
        if (!isInscription(inscription) || i < 0) {
            return NONE;
        }
        long all = total(inscription);
        if (all < 0) {
            return TOO_GREAT;
        }
        restoration.write(texts[inscription], spreadOf(inscription), all);
        return i < restoration.size ? restoration.bytes[i] : NONE;
    }

    public boolean copy(int from, int to) {
        if (!isInscription(from) || !isInscription(to) || from == to) {
            return false;
        }
        texts[to].become(texts[from]);
        forget(to);
        return true;
    }

    public int count(int what) {
        switch (what) {
            case 0:
                return lexicon.size;
            case 1:
                return lexicon.states - 1;
            case 2:
                return lexicon.weights();
            case 3:
                return tape.size;
            case 4:
            case 5:
            case 6:
                return texts[what - 4].size;
            case 7:
            case 8:
            case 9:
                return texts[what - 7].rule;
            default:
                return NONE;
        }
    }

    private static boolean isInscription(int inscription) {
        return inscription >= 0 && inscription < INSCRIPTIONS;
    }

    private boolean isSign(int inscription, int sign) {
        return isInscription(inscription) && sign >= 0 && sign < texts[inscription].size;
    }

    private boolean isLettered(int inscription, int sign) {
        return isSign(inscription, sign) && texts[inscription].isLettered(sign);
    }

    private static boolean isLetter(int letter) {
        return letter >= 0 && letter < ALPHABET;
    }

    private void forget(int inscription) {
        answers[inscription].known = 0;
        if (counted == inscription) {
            counted = NONE;
        }
    }

    private long total(int inscription) {
        Answers known = answers[inscription];
        if (!known.knows(Answers.TOTAL)) {
            known.total = counts.fill(Measure.COUNT, texts[inscription], lexicon);
            known.learns(Answers.TOTAL);
            counted = inscription;
        }
        return known.total;
    }

    private void fillCounts(int inscription) {
        if (counted != inscription) {
            counts.fill(Measure.COUNT, texts[inscription], lexicon);
            counted = inscription;
        }
    }

    private long measured(Measure measure, int inscription) {
        return others.fill(measure, texts[inscription], lexicon);
    }

    /** For an INSCRIPTION whose FITS are not TOO GREAT. */
    private Answers spreadOf(int inscription) {
        Answers known = answers[inscription];
        if (!known.knows(Answers.SPREAD)) {
            fillCounts(inscription);
            spread.run(texts[inscription], lexicon, known);
            known.learns(Answers.SPREAD);
        }
        return known;
    }

    private boolean follow(int inscription, long k) {
        if (k < 0 || k >= total(inscription)) {
            return false;
        }
        fillCounts(inscription);
        path.layRanked(texts[inscription], lexicon, k);
        return true;
    }

    private void weigh(int inscription) {
        Answers known = answers[inscription];
        fillCounts(inscription);
        known.heaviestWeight = measured(Measure.WEIGHT, inscription);
        known.heaviestRank = path.layHeaviest(texts[inscription], lexicon, known.heaviestWeight);
        known.learns(Answers.HEAVIEST);
    }

    private static int fault(int place, int kind) {
        return -2 - (8 * place + kind);
    }

    /** Of a number from 0 to 1, what Float.floatToIntBits tells: the library has no place here. */
    private static int bitsOf(float share) {
        if (share <= 0f) {
            return 0;
        }
        int exponent = 127;
        float mantissa = share;
        for (int i = 0; i < 126 && mantissa < 1f; i++) {
            mantissa = mantissa * 2f;
            exponent--;
        }
        return (exponent << 23) | (int) ((mantissa - 1f) * 8388608f);
    }

    private static long sum(long a, long b) {
        if (a < 0 || b < 0 || a + b < 0) {
            return TOO_GREAT;
        }
        return a + b;
    }

    /** The bytes that come before they are told. */
    private static final class Tape {
        private final int[] bytes = new int[MOST_BYTES];
        private int size = 0;

        int append(long a, long b, long c) {
            if (size + 24 > MOST_BYTES) {
                return NONE;
            }
            put(a);
            put(b);
            put(c);
            return size;
        }

        private void put(long eight) {
            for (int shift = 56; shift >= 0 && size < MOST_BYTES; shift -= 8) {
                bytes[size] = (int) (eight >>> shift) & 255;
                size++;
            }
        }

        int cut(int n) {
            if (n < 0 || n > size) {
                return NONE;
            }
            size = n;
            return n;
        }

        int at(int place) {
            return place >= 0 && place < size ? bytes[place] : NONE;
        }

        boolean hasLetter(int place) {
            return at(place) >= 'a' && at(place) <= 'z';
        }

        boolean hasDigit(int place) {
            return at(place) >= '0' && at(place) <= '9';
        }

        int behindBlanks(int from) {
            int i = from;
            while (i < size && (at(i) == ' ' || at(i) == '\n')) {
                i++;
            }
            return i;
        }

        int behindLetters(int from) {
            int i = from;
            while (i < size && hasLetter(i)) {
                i++;
            }
            return i;
        }

        int behindDigits(int from) {
            int i = from;
            while (i < size && hasDigit(i)) {
                i++;
            }
            return i;
        }

        /** What the digits tell; of three and more NONE, as no NUMBER has so many. */
        int number(int from, int behind) {
            if (behind - from > 2) {
                return NONE;
            }
            int value = 0;
            for (int i = from; i < behind; i++) {
                value = 10 * value + at(i) - '0';
            }
            return value;
        }
    }

    /** The WORDS, and the states of laying them letter by letter. */
    private static final class Lexicon {
        private int size = 0;
        private int states = 1;
        private final int[] first = new int[MOST_WORDS];
        private final int[] length = new int[MOST_WORDS];
        private final int[] weight = new int[MOST_WORDS];
        /** By states: the letter that comes next, and the state behind it. */
        private final int[] letter = new int[STATES];
        private final int[] next = new int[STATES];
        /** A WORD that was chosen begins at once: no GAP ends ahead of its first letter. */
        private final boolean[] begins = new boolean[STATES];

        int tell(Tape tape) {
            size = 0;
            states = 1;
            int at = tape.behindBlanks(0);
            for (int turn = 0; turn <= MOST_WORDS && at < tape.size; turn++) {
                int behind = tape.behindLetters(at);
                int kind = faultOfWord(tape, at, behind);
                if (kind != 0) {
                    return fault(at, kind);
                }
                int number = tape.behindBlanks(behind);
                int numberEnd = tape.behindDigits(number);
                if (numberEnd == number) {
                    return fault(number, MISPLACED);
                }
                int value = tape.number(number, numberEnd);
                if (value < 1 || value > MOST_WEIGHT) {
                    return fault(number, OUT_OF_BOUNDS);
                }
                int mark = tape.behindBlanks(numberEnd);
                if (tape.at(mark) != ';') {
                    return fault(mark, MISPLACED);
                }
                add(tape, at, behind, value);
                at = tape.behindBlanks(mark + 1);
            }
            return size;
        }

        private int faultOfWord(Tape tape, int from, int behind) {
            if (behind == from) {
                return MISPLACED;
            }
            if (behind - from > MOST_IN_WORD) {
                return OUT_OF_BOUNDS;
            }
            for (int w = 0; w < size; w++) {
                if (isTold(w, tape, from, behind)) {
                    return TOLD_ALREADY;
                }
            }
            return size >= MOST_WORDS ? WORD_TOO_MANY : 0;
        }

        private boolean isTold(int w, Tape tape, int from, int behind) {
            if (length[w] != behind - from) {
                return false;
            }
            for (int i = 0; i < length[w]; i++) {
                if (letter[first[w] + i] != tape.at(from + i) - 'a') {
                    return false;
                }
            }
            return true;
        }

        private void add(Tape tape, int from, int behind, int value) {
            first[size] = states;
            length[size] = behind - from;
            weight[size] = value;
            for (int i = from; i < behind; i++) {
                letter[states] = tape.at(i) - 'a';
                next[states] = i + 1 == behind ? 0 : states + 1;
                begins[states] = i == from;
                states++;
            }
            size++;
        }

        int widthOf(int w) {
            int width = 0;
            for (int i = 0; i < length[w]; i++) {
                width += WIDTH[letter[first[w] + i]];
            }
            return width;
        }

        int weights() {
            int all = 0;
            for (int w = 0; w < size; w++) {
                all += weight[w];
            }
            return all;
        }

        int firstLetters() {
            int bits = 0;
            for (int w = 0; w < size; w++) {
                bits |= 1 << letter[first[w]];
            }
            return bits;
        }
    }

    /** The SIGNS of an INSCRIPTION and its RULE. */
    private static final class Inscription {
        private int size = 0;
        private int gaps = 0;
        private int rule = 1;
        private final int[] kind = new int[MOST_SIGNS];
        private final int[] mask = new int[MOST_SIGNS];
        private final int[] least = new int[MOST_SIGNS];
        private final int[] most = new int[MOST_SIGNS];

        int tell(Tape tape) {
            size = 0;
            gaps = 0;
            rule = 1;
            int at = 0;
            for (int turn = 0; turn <= MOST_SIGNS && at < tape.size; turn++) {
                at = tellSign(tape, at);
                if (at < 0) {
                    return at;
                }
            }
            return size;
        }

        /** The place behind the SIGN; its FAULT, which is below 0. */
        private int tellSign(Tape tape, int at) {
            int told = kindOf(tape, at);
            boolean isGap = told == LETTER_GAP || told == WIDTH_GAP;
            if (told == NONE) {
                return fault(at, MISPLACED);
            }
            if (size >= MOST_SIGNS || (isGap && gaps >= MOST_GAPS)) {
                return fault(at, SIGN_TOO_MANY);
            }
            if (told == TRACE) {
                return tellTrace(tape, at);
            }
            if (isGap) {
                return tellGap(tape, at, told);
            }
            int letters = told == LOST ? ALL_LETTERS : 0;
            add(told, told == READ ? 1 << (tape.at(at) - 'a') : letters, NONE, NONE);
            return at + 1;
        }

        private static int kindOf(Tape tape, int at) {
            if (tape.hasLetter(at)) {
                return READ;
            }
            switch (tape.at(at)) {
                case '.':
                    return LOST;
                case '[':
                    return TRACE;
                case '(':
                    return LETTER_GAP;
                case '{':
                    return WIDTH_GAP;
                case ':':
                    return WORD_END;
                case '/':
                    return LINE_END;
                default:
                    return NONE;
            }
        }

        private int tellTrace(Tape tape, int at) {
            int letters = 0;
            int many = 0;
            int i = at + 1;
            while (many < 6 && tape.hasLetter(i)) {
                int bit = 1 << (tape.at(i) - 'a');
                if (bit <= letters) {
                    return fault(i, OUT_OF_BOUNDS);
                }
                letters |= bit;
                many++;
                i++;
            }
            if (many < 2 || tape.at(i) != ']') {
                return fault(i, MISPLACED);
            }
            add(TRACE, letters, NONE, NONE);
            return i + 1;
        }

        private int tellGap(Tape tape, int at, int told) {
            int bound = told == LETTER_GAP ? MOST_LETTERS : MOST_WIDTH;
            int behind = tape.behindDigits(at + 1);
            int kindOfFault = faultOfNumber(tape, at + 1, 0, bound);
            if (kindOfFault != 0) {
                return fault(at + 1, kindOfFault);
            }
            int from = tape.number(at + 1, behind);
            int to = from;
            if (tape.at(behind) == '-') {
                int second = behind + 1;
                kindOfFault = faultOfNumber(tape, second, from, bound);
                if (kindOfFault != 0) {
                    return fault(second, kindOfFault);
                }
                behind = tape.behindDigits(second);
                to = tape.number(second, behind);
            }
            if (tape.at(behind) != (told == LETTER_GAP ? ')' : '}')) {
                return fault(behind, MISPLACED);
            }
            add(told, 0, from, to);
            gaps++;
            return behind + 1;
        }

        private static int faultOfNumber(Tape tape, int at, int from, int to) {
            int behind = tape.behindDigits(at);
            if (behind == at) {
                return MISPLACED;
            }
            int value = tape.number(at, behind);
            return value < from || value > to ? OUT_OF_BOUNDS : 0;
        }

        private void add(int told, int letters, int from, int to) {
            kind[size] = told;
            mask[size] = letters;
            least[size] = from;
            most[size] = to;
            size++;
        }

        void become(Inscription other) {
            size = other.size;
            gaps = other.gaps;
            rule = other.rule;
            System.arraycopy(other.kind, 0, kind, 0, size);
            System.arraycopy(other.mask, 0, mask, 0, size);
            System.arraycopy(other.least, 0, least, 0, size);
            System.arraycopy(other.most, 0, most, 0, size);
        }

        boolean isGap(int s) {
            return kind[s] == LETTER_GAP || kind[s] == WIDTH_GAP;
        }

        boolean isMark(int s) {
            return kind[s] == WORD_END || kind[s] == LINE_END;
        }

        boolean isLettered(int s) {
            return kind[s] <= TRACE;
        }

        boolean has(int s, int letter) {
            return ((mask[s] >> letter) & 1) == 1;
        }

        /** What a letter takes of a GAP. */
        int step(int s, int letter) {
            return kind[s] == WIDTH_GAP ? WIDTH[letter] : 1;
        }

        boolean goesOnWithin(int mark) {
            return kind[mark] == LINE_END && rule == 1;
        }

        int whyStuckAt(int s) {
            if (s >= size || isMark(s)) {
                return 2;
            }
            return isGap(s) ? 3 : 1;
        }
    }

    /** What is told of the FITS behind a state, joined from what is told of each choice. */
    private enum Measure {
        COUNT {
            long none() {
                return 0;
            }

            long either(long a, long b) {
                return a < 0 || b < 0 || a + b < 0 ? TOO_GREAT : a + b;
            }

            long whole() {
                return 1;
            }
        },
        WEIGHT {
            long either(long a, long b) {
                return Math.max(a, b);
            }

            long begun(int word, int weight, long rest) {
                return rest < 0 ? rest : rest + weight;
            }
        },
        NEEDED {
            /** NONE has all bits: what it is joined with stays. */
            long either(long a, long b) {
                return a & b;
            }

            long begun(int word, int weight, long rest) {
                return rest | (1L << word);
            }
        },
        USED {
            long either(long a, long b) {
                if (a < 0 || b < 0) {
                    return Math.max(a, b);
                }
                return a | b;
            }

            long begun(int word, int weight, long rest) {
                return rest | (1L << word);
            }
        },
        /** The first SIGN has the highest bit: of rows of equal length the one ahead is greater. */
        WRONG {
            long either(long a, long b) {
                if (a < 0 || b < 0) {
                    return Math.max(a, b);
                }
                int fewer = Long.bitCount(a) - Long.bitCount(b);
                if (fewer == 0) {
                    return Math.max(a, b);
                }
                return fewer < 0 ? a : b;
            }

            long unlike(int sign, long rest) {
                return rest < 0 ? rest : rest | (1L << (MOST_SIGNS - 1 - sign));
            }
        };

        long none() {
            return NONE;
        }

        /** At the end of all. */
        long whole() {
            return 0;
        }

        abstract long either(long a, long b);

        long begun(int word, int weight, long rest) {
            return rest;
        }

        /** When a WORD has a letter at a SIGN that the SIGN has not. */
        long unlike(int sign, long rest) {
            return none();
        }
    }

    /** A measure by SIGNS and states, filled from the end to the beginning. */
    private static final class Table {
        private final long[] rows = new long[(MOST_SIGNS + 1) * STATES];
        /** Within the GAP that was opened last, by how much of it is filled. */
        private final long[] inner = new long[(MOST_WIDTH + 1) * STATES];
        private Measure measure = Measure.COUNT;
        private Inscription text;
        private Lexicon lexicon;

        Table(Inscription text, Lexicon lexicon) {
            this.text = text;
            this.lexicon = lexicon;
        }

        long fill(Measure asked, Inscription along, Lexicon by) {
            measure = asked;
            text = along;
            lexicon = by;
            int last = text.size * STATES;
            Arrays.fill(rows, last, last + lexicon.states, measure.none());
            rows[last] = measure.whole();
            for (int s = text.size - 1; s >= 0; s--) {
                if (text.isGap(s)) {
                    open(s);
                    System.arraycopy(inner, 0, rows, s * STATES, lexicon.states);
                } else if (text.isMark(s)) {
                    fillMark(s);
                } else {
                    fillLettered(s);
                }
            }
            return rows[0];
        }

        private void fillMark(int s) {
            int row = s * STATES;
            boolean goesOn = text.goesOnWithin(s);
            rows[row] = rows[row + STATES];
            for (int state = 1; state < lexicon.states; state++) {
                rows[row + state] = goesOn ? rows[row + STATES + state] : measure.none();
            }
        }

        private void fillLettered(int s) {
            int row = s * STATES;
            for (int state = 1; state < lexicon.states; state++) {
                long rest = rows[row + STATES + lexicon.next[state]];
                rows[row + state] = text.has(s, lexicon.letter[state]) ? rest : measure.unlike(s, rest);
            }
            rows[row] = withWords(rows, row, measure.none());
        }

        void open(int s) {
            int behind = (s + 1) * STATES;
            int most = text.most[s];
            long none = measure.none();
            for (int amount = most; amount >= 0; amount--) {
                int row = amount * STATES;
                boolean ends = amount >= text.least[s];
                for (int state = 1; state < lexicon.states; state++) {
                    int filled = amount + text.step(s, lexicon.letter[state]);
                    long on = filled <= most ? inner[filled * STATES + lexicon.next[state]] : none;
                    boolean mayEnd = ends && !lexicon.begins[state];
                    inner[row + state] = mayEnd ? measure.either(rows[behind + state], on) : on;
                }
                inner[row] = withWords(inner, row, ends ? rows[behind] : none);
            }
        }

        private long withWords(long[] cells, int row, long without) {
            long all = without;
            for (int w = 0; w < lexicon.size; w++) {
                all = measure.either(all, measure.begun(w, lexicon.weight[w], cells[row + lexicon.first[w]]));
            }
            return all;
        }

        /** Amounts above 0 are those of the GAP that was opened last. */
        long at(int s, int amount, int state) {
            if (amount == 0) {
                return rows[s * STATES + state];
            }
            return amount <= MOST_WIDTH ? inner[amount * STATES + state] : measure.none();
        }
    }

    /** What is known of an INSCRIPTION as it stands now. */
    private static final class Answers {
        private static final int TOTAL = 1;
        private static final int SPREAD = 2;
        private static final int HEAVIEST = 4;
        private static final int NEEDED = 8;
        private static final int USED = 16;
        private static final int WRONG = 32;

        private int known = 0;
        private long total = 0;
        private final long[] by = new long[MOST_SIGNS * ALPHABET];
        private final long[] gapBy = new long[MOST_GAPS * LENGTHS];
        private int reach = 0;
        private int could = 0;
        private long heaviestRank = 0;
        private long heaviestWeight = 0;
        private long needed = 0;
        private long used = 0;
        private long wrong = 0;

        boolean knows(int part) {
            return (known & part) != 0;
        }

        void learns(int part) {
            known |= part;
        }

        int lettersAt(int sign) {
            int bits = 0;
            for (int c = 0; c < ALPHABET; c++) {
                if (by[sign * ALPHABET + c] > 0) {
                    bits |= 1 << c;
                }
            }
            return bits;
        }

        long mostAt(int sign) {
            long most = 0;
            for (int c = 0; c < ALPHABET; c++) {
                most = Math.max(most, by[sign * ALPHABET + c]);
            }
            return most;
        }

        /** How many letters a GAP has in all FITS. */
        int lengthInAll(int g, long all) {
            for (int n = 0; n < LENGTHS && all > 0; n++) {
                if (gapBy[g * LENGTHS + n] == all) {
                    return n;
                }
            }
            return NONE;
        }

        int wrongSign(int i) {
            int ahead = 0;
            for (int s = 0; s < MOST_SIGNS; s++) {
                if (((wrong >> (MOST_SIGNS - 1 - s)) & 1) == 1) {
                    if (ahead == i) {
                        return s;
                    }
                    ahead++;
                }
            }
            return NONE;
        }
    }

    /** Goes from the beginning to the end: in how many FITS what stands where. */
    private static final class Spread {
        private final Table counts;
        private Inscription text;
        private Lexicon lexicon;
        private long[] row = new long[STATES];
        private long[] next = new long[STATES];
        /** Within a GAP that has so many letters, by how much of it is filled. */
        private final long[] cells = new long[(MOST_WIDTH + 1) * STATES];

        Spread(Table counts, Inscription text, Lexicon lexicon) {
            this.counts = counts;
            this.text = text;
            this.lexicon = lexicon;
        }

        void run(Inscription along, Lexicon laid, Answers out) {
            text = along;
            lexicon = laid;
            Arrays.fill(out.by, 0);
            Arrays.fill(out.gapBy, 0);
            Arrays.fill(row, 0, lexicon.states, 0);
            row[0] = 1;
            out.reach = 0;
            int g = 0;
            for (int s = 0; s < text.size; s++) {
                Arrays.fill(next, 0, lexicon.states, 0);
                if (text.isGap(s)) {
                    passGap(s, g, out);
                    g++;
                } else if (text.isMark(s)) {
                    passMark(s);
                } else {
                    passLettered(s, out);
                }
                if (!turnRows()) {
                    break;
                }
                out.reach = s + 1;
            }
            out.could = lettersThatCould();
        }

        /** Whether anything comes so far; if not, the row stays that of the REACH. */
        private boolean turnRows() {
            for (int state = 0; state < lexicon.states; state++) {
                if (next[state] != 0) {
                    long[] old = row;
                    row = next;
                    next = old;
                    return true;
                }
            }
            return false;
        }

        private int lettersThatCould() {
            int bits = row[0] != 0 ? lexicon.firstLetters() : 0;
            for (int state = 1; state < lexicon.states; state++) {
                if (row[state] != 0 && !lexicon.begins[state]) {
                    bits |= 1 << lexicon.letter[state];
                }
            }
            return bits;
        }

        private void passMark(int s) {
            if (text.goesOnWithin(s)) {
                System.arraycopy(row, 0, next, 0, lexicon.states);
            }
            next[0] = row[0];
        }

        private void passLettered(int s, Answers out) {
            beginWords(row, 0);
            for (int state = 1; state < lexicon.states; state++) {
                int c = lexicon.letter[state];
                if (row[state] != 0 && text.has(s, c)) {
                    int to = lexicon.next[state];
                    next[to] = sum(next[to], row[state]);
                    out.by[s * ALPHABET + c] += ways(row[state], counts.at(s + 1, 0, to));
                }
            }
        }

        /** A state that FITS go through has no more ways, there and on, than there are FITS. */
        private static long ways(long there, long on) {
            return there > 0 && on > 0 ? there * on : 0;
        }

        private void beginWords(long[] states, int at) {
            for (int w = 0; w < lexicon.size; w++) {
                states[at + lexicon.first[w]] = states[at];
            }
        }

        private void passGap(int s, int g, Answers out) {
            int most = text.most[s];
            for (int amount = 1; amount <= most; amount++) {
                Arrays.fill(cells, amount * STATES, amount * STATES + lexicon.states, 0);
            }
            System.arraycopy(row, 0, cells, 0, lexicon.states);
            for (int n = 0; n <= most; n++) {
                out.gapBy[g * LENGTHS + n] += endGap(s, Math.max(n, text.least[s]));
                addLetter(s, n);
            }
        }

        private long endGap(int s, int least) {
            long all = 0;
            for (int amount = least; amount <= text.most[s]; amount++) {
                for (int state = 0; state < lexicon.states; state++) {
                    long there = cells[amount * STATES + state];
                    if (there != 0) {
                        next[state] = sum(next[state], there);
                        all += ways(there, counts.at(s + 1, 0, state));
                    }
                }
            }
            return all;
        }

        /** From the fullest on, as each is made of such as are filled less; none has below n. */
        private void addLetter(int s, int n) {
            for (int amount = n; amount < text.most[s]; amount++) {
                beginWords(cells, amount * STATES);
            }
            for (int amount = text.most[s]; amount > n; amount--) {
                int to = amount * STATES;
                Arrays.fill(cells, to, to + lexicon.states, 0);
                for (int state = 1; state < lexicon.states; state++) {
                    int before = amount - text.step(s, lexicon.letter[state]);
                    long there = before >= n ? cells[before * STATES + state] : 0;
                    if (there != 0) {
                        int cell = to + lexicon.next[state];
                        cells[cell] = sum(cells[cell], there);
                    }
                }
            }
        }
    }

    /** One FIT, laid choice by choice: the one of a rank, or the HEAVIEST. */
    private static final class Path {
        /** Each turn lays a letter or passes a SIGN. */
        private static final int MOST_TURNS = MOST_IN_FIT + MOST_SIGNS;

        private final Table counts;
        private final Table weights;
        private Inscription text;
        private Lexicon lexicon;
        private boolean heavy = false;
        /** How many FITS are still ahead; of the HEAVIEST how many were. */
        private long rank = 0;
        private long wanted = 0;
        private final int[] told = new int[MOST_IN_FIT];
        private final int[] here = new int[MOST_SIGNS];
        private int size = 0;
        private int weight = 0;
        private int letters = 0;

        Path(Table counts, Table weights, Inscription text, Lexicon lexicon) {
            this.counts = counts;
            this.weights = weights;
            this.text = text;
            this.lexicon = lexicon;
        }

        void layRanked(Inscription along, Lexicon by, long k) {
            text = along;
            lexicon = by;
            heavy = false;
            rank = k;
            lay();
        }

        long layHeaviest(Inscription along, Lexicon by, long greatest) {
            text = along;
            lexicon = by;
            heavy = true;
            rank = 0;
            wanted = greatest;
            lay();
            return rank;
        }

        private void lay() {
            size = 0;
            weight = 0;
            letters = 0;
            int s = 0;
            int amount = 0;
            int inGap = 0;
            int state = 0;
            for (int turn = 0; turn < MOST_TURNS && s < text.size; turn++) {
                boolean isGap = text.isGap(s);
                if (isGap && inGap == 0) {
                    counts.open(s);
                }
                if (isGap && inGap == 0 && heavy) {
                    weights.open(s);
                }
                if (text.isMark(s) || (isGap && amount >= text.least[s] && takes(s + 1, 0, state, 0))) {
                    here[s] = inGap;
                    s++;
                    amount = 0;
                    inGap = 0;
                    continue;
                }
                state = state == 0 ? begin(s, amount) : state;
                int letter = lexicon.letter[state];
                state = lexicon.next[state];
                letters++;
                if (isGap) {
                    amount += text.step(s, letter);
                    inGap++;
                } else {
                    here[s] = letter;
                    s++;
                }
            }
        }

        private int begin(int s, int amount) {
            for (int w = 0; w < lexicon.size; w++) {
                if (takes(s, amount, lexicon.first[w], lexicon.weight[w]) && size < MOST_IN_FIT) {
                    told[size] = w;
                    size++;
                    weight += lexicon.weight[w];
                    return lexicon.first[w];
                }
            }
            return 0;
        }

        private boolean takes(int s, int amount, int state, int own) {
            long ways = counts.at(s, amount, state);
            if (heavy) {
                if (ways != 0 && weights.at(s, amount, state) + own == wanted) {
                    wanted -= own;
                    return true;
                }
                rank += ways;
                return false;
            }
            if (rank < ways) {
                return true;
            }
            rank -= ways;
            return false;
        }
    }

    /** The text of what is restored. */
    private static final class Restoration {
        private final int[] bytes = new int[MOST_RESTORED];
        private int size = 0;

        void write(Inscription text, Answers known, long all) {
            size = 0;
            int g = 0;
            for (int s = 0; s < text.size; s++) {
                if (text.isGap(s)) {
                    writeGap(known.lengthInAll(g, all));
                    g++;
                } else if (text.isMark(s)) {
                    put(text.kind[s] == WORD_END ? ':' : '/');
                } else if (text.kind[s] == READ) {
                    put('a' + Integer.numberOfTrailingZeros(text.mask[s]));
                } else {
                    writeLetter(known.lettersAt(s));
                }
            }
        }

        private void writeGap(int length) {
            put('(');
            if (length == NONE) {
                put('?');
            } else {
                if (length > 9) {
                    put('0' + length / 10);
                }
                put('0' + length % 10);
            }
            put(')');
        }

        private void writeLetter(int bits) {
            if (Integer.bitCount(bits) != 1) {
                put('.');
                return;
            }
            put('[');
            put('a' + Integer.numberOfTrailingZeros(bits));
            put(']');
        }

        private void put(int b) {
            if (size < MOST_RESTORED) {
                bytes[size] = b;
                size++;
            }
        }
    }
}
