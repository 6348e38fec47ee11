/**
 * Which NUMBERS of a TASK may be kept in which FORMAT so that its ANSWERS stay
 * within their ERRORS. The words in capitals are those of the document.
 */
public final class ShortEnough {

    public static final int NONE = -1;
    public static final long NOTHING = -1000000000000000L;

    private static final int MOST_BYTES = 1200;
    private static final int MOST_STATEMENTS = 40;
    private static final int MOST_FORMATS = 4;
    private static final int MOST_NUMBERS = 14;
    private static final int MOST_FREE_GROUPS = 5;
    private static final int MOST_TRIALS = 40;
    private static final int MOST_LONGER = 10000000;
    private static final int NAME_LETTERS = 6;
    private static final int LETTER_BITS = 5;
    private static final int CERTIFICATE_ROW = 25;

    private static final int INPUT = 0;
    private static final int PLUS = 1;
    private static final int MINUS = 2;
    private static final int TIMES = 3;
    private static final int LESSER = 4;
    private static final int GREATER = 5;

    private static final int IT_PASSES = -2;
    private static final int NO_SUCH = -2;
    private static final int ASK_TRIES = -2;

    private static final int OF_TAPE = 0;
    private static final int OF_TASK = 1;
    private static final int OF_CHOICE = 2;
    private static final int OF_CHECK = 3;
    private static final int OF_TRIALS = 4;
    private static final int KINDS_REFUSED = 5;

    private final byte[] tape;
    private int tapeLength;
    private final int[] refused;
    private final Parser parser;
    private Task current;
    private Task spare;
    private final int[] hand;
    private final int[] other;
    private final Reckoning reckoning;
    private final Reckoning otherReckoning;
    private final Ranges longerRanges;
    private final FullSearch full;
    private final LocalSearch local;
    private final CertificateReader reader;
    private final Sampler sampler;
    private int seedNow;

    public ShortEnough() {
        tape = new byte[MOST_BYTES];
        refused = new int[KINDS_REFUSED];
        parser = new Parser();
        current = new Task();
        spare = new Task();
        hand = new int[MOST_NUMBERS];
        other = new int[MOST_NUMBERS];
        reckoning = new Reckoning();
        otherReckoning = new Reckoning();
        longerRanges = new Ranges();
        full = new FullSearch();
        local = new LocalSearch();
        reader = new CertificateReader();
        sampler = new Sampler();
        seedNow = 1;
    }

    // ---- the tape and the task

    public int feed(int a, int b, int c, int d, int e) {
        if (tapeLength > MOST_BYTES - 20) {
            return refuse(OF_TAPE);
        }
        putBytes(a);
        putBytes(b);
        putBytes(c);
        putBytes(d);
        putBytes(e);
        return tapeLength;
    }

    public boolean end(int n) {
        if (n < 0 || n > tapeLength) {
            refuse(OF_TAPE);
            return false;
        }
        tapeLength = n;
        return true;
    }

    public int task() {
        int length = tapeLength;
        tapeLength = 0;
        if (!parser.read(tape, length, spare)) {
            return refuse(OF_TASK);
        }
        Task old = current;
        current = spare;
        spare = old;
        current.settle();
        current.groups.fillFree(hand, 0);
        full.forget();
        local.forget();
        reader.forget();
        return current.numbers.count;
    }

    public int fault(int what) {
        if (what == 0) {
            return parser.faultKind;
        }
        return what == 1 ? parser.faultPlace : NONE;
    }

    public int has(int what) {
        switch (what) {
            case 0: return current.numbers.count;
            case 1: return current.formats;
            case 2: return current.numbers.inputs;
            case 3: return current.numbers.countAnswers(current.numbers.count);
            case 4: return current.groups.count;
            case 5: return current.groups.free;
            case 6: return current.castPrice;
            case 7: return seedNow;
            default: return NONE;
        }
    }

    // ---- as told

    public int letter(int which, boolean isFormat, int k) {
        boolean there = isFormat ? current.hasFormat(which) : current.hasNumber(which);
        if (!there || k < 0 || k >= NAME_LETTERS) {
            return NONE;
        }
        int name = isFormat ? current.formatName[which] : current.numbers.name[which];
        return letterOf(name, k);
    }

    public int format(int format, int what) {
        if (!current.hasFormat(format)) {
            return NONE;
        }
        switch (what) {
            case 0: return current.step[format];
            case 1: return current.most[format];
            case 2: return current.price[format];
            default: return NONE;
        }
    }

    public int number(int number, int what) {
        if (!current.hasNumber(number)) {
            return NO_SUCH;
        }
        switch (what) {
            case 0: return current.numbers.op[number];
            case 1: return current.numbers.madeOf(number, 0);
            case 2: return current.numbers.madeOf(number, 1);
            case 3: return current.groups.of[number];
            case 4: return current.numbers.fixedAs[number];
            case 5: return current.numbers.allowed[number];
            default: return NO_SUCH;
        }
    }

    public long told(int number, int which) {
        if (!current.hasNumber(number) || which < 0 || which > 1) {
            return NOTHING;
        }
        if (current.numbers.madeOf(number, which) != NONE) {
            return NOTHING;
        }
        return current.numbers.amountOf(number, which);
    }

    public long range(int number, boolean greatest) {
        if (!current.hasNumber(number) || current.ranges.wide[number]) {
            return NOTHING;
        }
        return greatest ? current.ranges.high[number] : current.ranges.low[number];
    }

    public int uses(int number) {
        return current.hasNumber(number) ? current.numbers.madeFrom(number) : NONE;
    }

    public int depth(int number) {
        return current.hasNumber(number) ? current.numbers.lets[number] : NONE;
    }

    // ---- the choice at hand

    public int chosen(int number) {
        return current.hasChoice() && current.hasNumber(number)
            ? current.formatOf(hand, number) : NONE;
    }

    public int choose(int number, int format) {
        if (!current.hasChoice() || !current.hasFormat(format) || !current.isFree(number)) {
            return refuse(OF_CHOICE);
        }
        int group = current.groups.of[number];
        int had = hand[group];
        hand[group] = format;
        return had;
    }

    public int cost() {
        return current.hasChoice() ? current.priceOf(hand) : NONE;
    }

    public int casts() {
        return current.hasChoice() ? current.castsOf(hand) : NONE;
    }

    public int fails() {
        if (!current.hasChoice()) {
            return NONE;
        }
        reckoning.reckon(current, current.ranges, hand);
        return reckoning.failsAt;
    }

    public int why() {
        if (!current.hasChoice()) {
            return NONE;
        }
        reckoning.reckon(current, current.ranges, hand);
        return reckoning.reason;
    }

    public long error(int number) {
        if (!current.hasChoice() || !current.hasNumber(number)) {
            return NOTHING;
        }
        boolean passes = reckoning.reckon(current, current.ranges, hand);
        return passes || number <= reckoning.failsAt ? reckoning.errors[number] : NOTHING;
    }

    public long slack(int number) {
        if (!current.isAnswer(number) || !handPasses()) {
            return NOTHING;
        }
        return current.numbers.allowed[number] - reckoning.errors[number];
    }

    public int widest(int number) {
        if (!current.isInput(number) || !handPasses()) {
            return NONE;
        }
        if (passesLonger(number, MOST_LONGER)) {
            return MOST_LONGER;
        }
        int good = 0;
        int bad = MOST_LONGER;
        for (int halving = 0; halving < 32 && bad - good > 1; halving++) {
            int middle = (good + bad) / 2;
            if (passesLonger(number, middle)) {
                good = middle;
            } else {
                bad = middle;
            }
        }
        return good;
    }

    public long blame(int answer, int number) {
        if (!current.isAnswer(answer) || !current.isFree(number) || !handPasses()) {
            return NOTHING;
        }
        copyChoice(hand, other);
        other[current.groups.of[number]] = current.finestFormat();
        if (!otherReckoning.reckon(current, current.ranges, other)) {
            return NOTHING;
        }
        return reckoning.errors[answer] - otherReckoning.errors[answer];
    }

    // ---- searched

    public int cheapest(int number) {
        if (!full.search(current) || full.best == NONE) {
            return NONE;
        }
        if (number == NONE) {
            return full.bestPrice;
        }
        FullSearch.unfold(current, full.best, other);
        return current.hasNumber(number) ? current.formatOf(other, number) : NONE;
    }

    public int passing() {
        return full.search(current) ? full.many : NONE;
    }

    public int halves(int number) {
        if (!local.goByHalves(current)) {
            return NONE;
        }
        if (number == ASK_TRIES) {
            return local.tries;
        }
        if (number == NONE) {
            return local.price;
        }
        return current.hasNumber(number) ? current.formatOf(local.row, number) : NONE;
    }

    public int single(int what) {
        if (!current.hasChoice()) {
            return NONE;
        }
        local.lookAround(current, hand);
        switch (what) {
            case 0: return local.passed;
            case 1: return local.cheaper;
            case 2: return current.groups.leaderOf(local.bestGroup);
            case 3: return local.bestFormat;
            default: return NONE;
        }
    }

    public int take(int what) {
        boolean taken = false;
        if (what == 0) {
            taken = takeCheapest();
        } else if (what == 1 && local.goByHalves(current)) {
            taken = true;
            copyChoice(local.row, hand);
        } else if (what == 2) {
            taken = takeSingle();
        }
        return taken ? current.priceOf(hand) : refuse(OF_CHOICE);
    }

    public long front(int answer, int k, int what) {
        if (!current.isAnswer(answer) || !full.search(current)) {
            return NOTHING;
        }
        full.drawFront(current, answer);
        if (k == NONE) {
            return what == 0 ? full.frontSize : NOTHING;
        }
        if (k < 0 || k >= full.frontSize) {
            return NOTHING;
        }
        switch (what) {
            case 0: return full.frontPrice[k];
            case 1: return full.frontError[k];
            case 2: return full.frontMany[k];
            default: return NOTHING;
        }
    }

    public long least(int answer, int cost) {
        if (!current.isAnswer(answer) || !full.search(current)) {
            return NOTHING;
        }
        return full.leastWithin(current, answer, cost);
    }

    // ---- certificates

    public int certificate(int i) {
        if (i < 0 || i >= CERTIFICATE_ROW * current.numbers.count || !handPasses()) {
            return NONE;
        }
        int number = i / CERTIFICATE_ROW;
        int at = i % CERTIFICATE_ROW;
        if (at == 0) {
            return current.formatOf(hand, number);
        }
        if (at <= 8) {
            return byteOf(current.ranges.low[number], at - 1);
        }
        if (at <= 16) {
            return byteOf(current.ranges.high[number], at - 9);
        }
        return byteOf(reckoning.errors[number], at - 17);
    }

    public boolean check() {
        int length = tapeLength;
        tapeLength = 0;
        if (!reader.holds(tape, length, current)) {
            refuse(OF_CHECK);
            return false;
        }
        return true;
    }

    public int broken(int what) {
        if (what == 0) {
            return reader.breaksAt;
        }
        return what == 1 ? reader.reason : NONE;
    }

    // ---- trials

    public long trials(int n, int number) {
        if (n < 1 || n > MOST_TRIALS || !current.hasNumber(number) || !handPasses()) {
            return refuse(OF_TRIALS);
        }
        long apart = 0;
        for (int trial = 0; trial < n; trial++) {
            seedNow = sampler.sample(current, hand, seedNow);
            apart = Math.max(apart, Math.abs(sampler.kept[number] - sampler.exact[number]));
        }
        return apart;
    }

    public long trial(int number, boolean kept) {
        if (!current.hasNumber(number) || !handPasses()) {
            return NOTHING;
        }
        sampler.sample(current, hand, seedNow);
        return kept ? sampler.kept[number] : sampler.exact[number];
    }

    public boolean seed(int seed) {
        if (seed < 0) {
            refuse(OF_TRIALS);
            return false;
        }
        seedNow = seed;
        return true;
    }

    public int status(int what) {
        return what >= 0 && what < KINDS_REFUSED ? refused[what] : NONE;
    }

    // ---- help for the calls

    private int refuse(int kind) {
        if (kind >= 0 && kind < KINDS_REFUSED) {
            refused[kind]++;
        }
        return NONE;
    }

    private void putBytes(int four) {
        for (int shift = 24; shift >= 0; shift -= 8) {
            if (tapeLength < MOST_BYTES) {
                tape[tapeLength] = (byte) (four >> shift);
                tapeLength++;
            }
        }
    }

    private boolean handPasses() {
        return current.hasChoice() && reckoning.reckon(current, current.ranges, hand);
    }

    private boolean passesLonger(int input, int longer) {
        longerRanges.fill(current.numbers, input, longer);
        return otherReckoning.reckon(current, longerRanges, hand);
    }

    private boolean takeCheapest() {
        if (!full.search(current) || full.best == NONE) {
            return false;
        }
        FullSearch.unfold(current, full.best, hand);
        return true;
    }

    private boolean takeSingle() {
        if (!current.hasChoice()) {
            return false;
        }
        local.lookAround(current, hand);
        if (!current.groups.isFree(local.bestGroup)) {
            return false;
        }
        hand[local.bestGroup] = local.bestFormat;
        return true;
    }

    private static void copyChoice(int[] from, int[] to) {
        for (int g = 0; g < MOST_NUMBERS && g < from.length && g < to.length; g++) {
            to[g] = from[g];
        }
    }

    private static int letterOf(int name, int k) {
        return (name >> (LETTER_BITS * (NAME_LETTERS - 1 - k))) & 31;
    }

    private static int byteOf(long value, int k) {
        return (int) ((value >> (8 * (7 - k))) & 255);
    }

    private static boolean divides(long step, long amount) {
        return step != 0 && amount % step == 0;
    }

    /** The multiple of step that is nearest to amount / divisor, of two the greater one. */
    private static long nearest(long amount, long divisor, long step) {
        long unit = divisor * step;
        return unit < 1 ? 0 : Math.floorDiv(2 * amount + unit, 2 * unit) * step;
    }

    /** A NUMBER of a let, from both of its WHATS, with * as the product by 1000. */
    private static long apply(int op, long a, long b, long step) {
        switch (op) {
            case PLUS: return a + b;
            case MINUS: return a - b;
            case TIMES: return nearest(a * b, 1000, step);
            case LESSER: return Math.min(a, b);
            case GREATER: return Math.max(a, b);
            default: return a;
        }
    }

    /** Words, numbers and signs on the tape, one after the other. */
    private static final class Words {
        static final int AT_END = 0;
        static final int WORD = 1;
        static final int AMOUNT = 2;
        static final int SIGN = 3;
        static final int BAD = 4;
        private static final int BLANK = 5;

        static final int FORMAT = 0;
        static final int STEP = 1;
        static final int MOST = 2;
        static final int COST = 3;
        static final int CAST = 4;
        static final int BOX = 5;
        static final int LET = 6;
        static final int MIN = 7;
        static final int MAX = 8;
        static final int FIXED = 9;
        static final int GROUP = 10;
        static final int ANSWER = 11;
        static final int WITHIN = 12;
        private static final int OWN_WORDS = 13;
        private static final String OWN_TEXT =
            "format step   most   cost   cast   input  let    min    max    fixed  group  answer within ";
        private static final int OWN_WIDTH = 7;
        private static final int MOST_DIGITS = 8;

        private final int[] ownNames = new int[OWN_WORDS];
        private byte[] text = new byte[0];
        private int length;
        private int place;
        int kind;
        int start;
        int value;
        int own;

        Words() {
            for (int w = 0; w < OWN_WORDS; w++) {
                for (int k = 0; k < NAME_LETTERS; k++) {
                    int at = w * OWN_WIDTH + k;
                    char c = at < OWN_TEXT.length() ? OWN_TEXT.charAt(at) : ' ';
                    ownNames[w] = (ownNames[w] << LETTER_BITS) | (c == ' ' ? 0 : c - 'a' + 1);
                }
            }
        }

        void open(byte[] bytes, int n) {
            text = bytes;
            length = Math.max(0, Math.min(n, bytes.length));
            place = 0;
            kind = AT_END;
            advance();
        }

        void advance() {
            int behind = place;
            boolean couldJoin = kind == WORD || kind == AMOUNT;
            while (place < length && kindOf(text[place]) == BLANK) {
                place++;
            }
            start = place;
            kind = place < length ? kindOf(text[place]) : AT_END;
            value = 0;
            int size = 0;
            while (place < length && kindOf(text[place]) == kind && (kind != SIGN || size == 0)) {
                size++;
                addByte(text[place], size);
                place++;
            }
            boolean joins = couldJoin && start == behind && (kind == WORD || kind == AMOUNT);
            if (joins || kind == WORD && size > NAME_LETTERS || kind == AMOUNT && size > MOST_DIGITS) {
                kind = BAD;
            }
            own = kind == WORD ? findOwn(value) : NONE;
        }

        /** A name's first letter stands highest, so that letters behind it are 0. */
        private void addByte(byte c, int size) {
            if (kind == SIGN) {
                value = c;
            } else if (kind == WORD && size <= NAME_LETTERS) {
                value |= (c - 'a' + 1) << (LETTER_BITS * (NAME_LETTERS - size));
            } else if (kind == AMOUNT && size <= MOST_DIGITS) {
                value = value * 10 + c - '0';
            }
        }

        private int findOwn(int name) {
            for (int w = 0; w < OWN_WORDS; w++) {
                if (ownNames[w] == name) {
                    return w;
                }
            }
            return NONE;
        }

        private static int kindOf(byte c) {
            if (c >= 'a' && c <= 'z') {
                return WORD;
            }
            if (c >= '0' && c <= '9') {
                return AMOUNT;
            }
            return c == 10 || c == 32 ? BLANK : SIGN;
        }

        boolean isSign(char sign) {
            return kind == SIGN && value == sign;
        }

        boolean isOwn(int word) {
            return kind == WORD && own == word;
        }

        boolean isName() {
            return kind == WORD && own == NONE;
        }
    }

    /**
     * Reads a TASK from left to right. Each FAULT is asked for at its own
     * place, at one place in the document's order, so the first found is due.
     */
    private static final class Parser {
        private static final int MOST_STEP = 1000000;
        private static final int MOST_MOST = 1000000000;
        private static final int MOST_PRICE = 999;
        private static final int MOST_END = 10000000;
        private static final int MOST_V = 1000000;
        private static final int MOST_WITHIN = 1000000;

        private final Words words = new Words();
        private int got;
        int faultKind;
        int faultPlace = NONE;

        boolean read(byte[] tape, int length, Task task) {
            faultKind = 0;
            faultPlace = NONE;
            task.clear();
            words.open(tape, length);
            for (int s = 0; s <= MOST_STATEMENTS && words.kind != Words.AT_END; s++) {
                if (!readStatement(task, s)) {
                    return false;
                }
            }
            boolean whole = task.formats > 0 && task.numbers.count > 0;
            return whole || stopAt(4, length);
        }

        private boolean stopAt(int kind, int place) {
            faultKind = kind;
            faultPlace = place;
            return false;
        }

        private boolean readStatement(Task task, int before) {
            int own = words.own;
            if (!startsStatement(own)) {
                return stopAt(1, words.start);
            }
            if (before >= MOST_STATEMENTS || isFull(task, own)) {
                return stopAt(4, words.start);
            }
            words.advance();
            boolean right;
            switch (own) {
                case Words.FORMAT: right = readFormat(task); break;
                case Words.CAST: right = readCast(task); break;
                case Words.BOX: right = readBox(task); break;
                case Words.LET: right = readLet(task); break;
                case Words.FIXED: right = readFixed(task); break;
                case Words.GROUP: right = readGroup(task); break;
                default: right = readAnswer(task); break;
            }
            return right && readSign(';');
        }

        private static boolean startsStatement(int own) {
            switch (own) {
                case Words.FORMAT:
                case Words.CAST:
                case Words.BOX:
                case Words.LET:
                case Words.FIXED:
                case Words.GROUP:
                case Words.ANSWER: return true;
                default: return false;
            }
        }

        private static boolean isFull(Task task, int own) {
            if (own == Words.FORMAT) {
                return task.formats >= MOST_FORMATS;
            }
            boolean isNumber = own == Words.BOX || own == Words.LET;
            return isNumber && task.numbers.count >= MOST_NUMBERS;
        }

        private boolean readFormat(Task task) {
            if (!readNewName(task)) {
                return false;
            }
            int name = got;
            if (!readOwn(Words.STEP) || !readValue(false, 1, MOST_STEP)) {
                return false;
            }
            int step = got;
            if (!readOwn(Words.MOST) || !readValue(false, 1, MOST_MOST)) {
                return false;
            }
            int most = got;
            if (!readOwn(Words.COST) || !readValue(false, 0, MOST_PRICE)) {
                return false;
            }
            task.addFormat(name, step, most, got);
            return true;
        }

        private boolean readCast(Task task) {
            if (!readValue(false, 0, MOST_PRICE)) {
                return false;
            }
            task.castPrice = got;
            return true;
        }

        private boolean readBox(Task task) {
            if (!readNewName(task)) {
                return false;
            }
            int name = got;
            if (!readValue(true, -MOST_END, MOST_END)) {
                return false;
            }
            int least = got;
            if (!readValue(true, least, MOST_END)) {
                return false;
            }
            task.numbers.prepare(0, NONE, least);
            task.numbers.prepare(1, NONE, got);
            task.numbers.add(name, INPUT);
            return true;
        }

        private boolean readLet(Task task) {
            if (!readNewName(task)) {
                return false;
            }
            int name = got;
            if (!readSign('=') || !readWhat(task, 0) || !readOp()) {
                return false;
            }
            int op = got;
            if (!readWhat(task, 1)) {
                return false;
            }
            task.numbers.add(name, op);
            return true;
        }

        private boolean readWhat(Task task, int side) {
            if (words.kind == Words.WORD) {
                boolean known = readKnown(task.numbers.find(words.value));
                task.numbers.prepare(side, known ? got : NONE, 0);
                return known;
            }
            boolean right = readValue(true, -MOST_V, MOST_V);
            task.numbers.prepare(side, NONE, right ? got : 0);
            return right;
        }

        private boolean readOp() {
            if (words.isSign('+')) {
                got = PLUS;
            } else if (words.isSign('-')) {
                got = MINUS;
            } else if (words.isSign('*')) {
                got = TIMES;
            } else if (words.isOwn(Words.MIN)) {
                got = LESSER;
            } else if (words.isOwn(Words.MAX)) {
                got = GREATER;
            } else {
                return stopAt(1, words.start);
            }
            words.advance();
            return true;
        }

        private boolean readFixed(Task task) {
            if (!readKnown(task.numbers.find(words.value))) {
                return false;
            }
            int number = got;
            if (!readKnown(task.findFormat(words.value))) {
                return false;
            }
            task.numbers.fix(number, got);
            return true;
        }

        private boolean readGroup(Task task) {
            if (!readKnown(task.numbers.find(words.value))) {
                return false;
            }
            int first = got;
            int place = words.start;
            if (!readKnown(task.numbers.find(words.value))) {
                return false;
            }
            if (got == first) {
                return stopAt(3, place);
            }
            task.numbers.join(first, got);
            return true;
        }

        private boolean readAnswer(Task task) {
            if (!readKnown(task.numbers.find(words.value))) {
                return false;
            }
            int number = got;
            if (!readOwn(Words.WITHIN) || !readValue(false, 0, MOST_WITHIN)) {
                return false;
            }
            task.numbers.allow(number, got);
            return true;
        }

        private boolean readSign(char sign) {
            if (!words.isSign(sign)) {
                return stopAt(1, words.start);
            }
            words.advance();
            return true;
        }

        private boolean readOwn(int word) {
            if (!words.isOwn(word)) {
                return stopAt(1, words.start);
            }
            words.advance();
            return true;
        }

        private boolean readValue(boolean mayBeMinus, int from, int to) {
            int place = words.start;
            boolean isMinus = mayBeMinus && words.isSign('-');
            if (isMinus) {
                words.advance();
            }
            if (words.kind != Words.AMOUNT) {
                return stopAt(1, words.start);
            }
            int value = isMinus ? -words.value : words.value;
            if (value < from || value > to) {
                return stopAt(2, place);
            }
            got = value;
            words.advance();
            return true;
        }

        private boolean readNewName(Task task) {
            if (!words.isName()) {
                return stopAt(1, words.start);
            }
            int name = words.value;
            if (task.findFormat(name) != NONE || task.numbers.find(name) != NONE) {
                return stopAt(3, words.start);
            }
            got = name;
            words.advance();
            return true;
        }

        /** A NAME that is there already; found is where its letters were found, or NONE. */
        private boolean readKnown(int found) {
            if (!words.isName()) {
                return stopAt(1, words.start);
            }
            if (found == NONE) {
                return stopAt(3, words.start);
            }
            got = found;
            words.advance();
            return true;
        }
    }

    /** A TASK as it was told; without NUMBERS it is none. */
    private static final class Task {
        int formats;
        final int[] formatName = new int[MOST_FORMATS];
        final int[] step = new int[MOST_FORMATS];
        final int[] most = new int[MOST_FORMATS];
        final int[] price = new int[MOST_FORMATS];
        int castPrice;
        final Numbers numbers = new Numbers();
        final Groups groups = new Groups();
        final Ranges ranges = new Ranges();

        void clear() {
            formats = 0;
            castPrice = 1;
            numbers.count = 0;
            numbers.inputs = 0;
        }

        void settle() {
            groups.gather(numbers);
            ranges.fill(numbers, NONE, 0);
        }

        void addFormat(int name, int itsStep, int itsMost, int itsPrice) {
            if (formats < MOST_FORMATS) {
                formatName[formats] = name;
                step[formats] = itsStep;
                most[formats] = itsMost;
                price[formats] = itsPrice;
                formats++;
            }
        }

        int findFormat(int name) {
            for (int f = 0; f < formats; f++) {
                if (formatName[f] == name) {
                    return f;
                }
            }
            return NONE;
        }

        boolean hasFormat(int f) {
            return f >= 0 && f < formats;
        }

        boolean hasNumber(int i) {
            return i >= 0 && i < numbers.count;
        }

        boolean hasChoice() {
            return numbers.count > 0 && !groups.clash;
        }

        boolean isAnswer(int i) {
            return hasNumber(i) && numbers.allowed[i] != NONE;
        }

        boolean isInput(int i) {
            return hasNumber(i) && numbers.op[i] == INPUT;
        }

        boolean isFree(int i) {
            return hasNumber(i) && groups.isFree(groups.of[i]);
        }

        int formatOf(int[] choice, int i) {
            int group = i >= 0 && i < numbers.count ? groups.of[i] : NONE;
            return group >= 0 && group < choice.length ? choice[group] : NONE;
        }

        int stepOf(int f) {
            return f >= 0 && f < formats ? step[f] : 1;
        }

        int mostOf(int f) {
            return f >= 0 && f < formats ? most[f] : 0;
        }

        int finestFormat() {
            int finest = 0;
            for (int f = 1; f < formats; f++) {
                if (step[f] < step[finest]) {
                    finest = f;
                }
            }
            return finest;
        }

        int castsOf(int[] choice) {
            int many = 0;
            for (int i = 0; i < numbers.count; i++) {
                for (int side = 0; side < 2; side++) {
                    int made = numbers.madeOf(i, side);
                    if (made != NONE && formatOf(choice, made) != formatOf(choice, i)) {
                        many++;
                    }
                }
            }
            return many;
        }

        int priceOf(int[] choice) {
            int sum = castPrice * castsOf(choice);
            for (int i = 0; i < numbers.count; i++) {
                int f = formatOf(choice, i);
                sum += hasFormat(f) ? price[f] : 0;
            }
            return sum;
        }
    }

    /** The NUMBERS as told; both WHATS (both ends of a box) stand side by side. */
    private static final class Numbers {
        int count;
        int inputs;
        final int[] name = new int[MOST_NUMBERS];
        final int[] op = new int[MOST_NUMBERS];
        final int[] fixedAs = new int[MOST_NUMBERS];
        final int[] allowed = new int[MOST_NUMBERS];
        final int[] lets = new int[MOST_NUMBERS];
        final int[] joined = new int[MOST_NUMBERS];
        private final int[] made = new int[2 * MOST_NUMBERS];
        private final int[] amount = new int[2 * MOST_NUMBERS];

        /** One WHAT, one end of the NUMBER that is being told. */
        void prepare(int side, int itsMade, int itsAmount) {
            if (count < MOST_NUMBERS && (side == 0 || side == 1)) {
                made[2 * count + side] = itsMade;
                amount[2 * count + side] = itsAmount;
            }
        }

        void add(int itsName, int itsOp) {
            if (count >= MOST_NUMBERS) {
                return;
            }
            name[count] = itsName;
            op[count] = itsOp;
            fixedAs[count] = NONE;
            allowed[count] = NONE;
            joined[count] = count;
            lets[count] = itsOp == INPUT ? 0 : 1 + Math.max(letsOf(0), letsOf(1));
            inputs += itsOp == INPUT ? 1 : 0;
            count++;
        }

        private int letsOf(int side) {
            int from = made[2 * count + side];
            return from >= 0 && from < count ? lets[from] : 0;
        }

        void join(int a, int b) {
            if (a < 0 || a >= count || b < 0 || b >= count) {
                return;
            }
            int from = joined[b];
            for (int i = 0; i < count; i++) {
                if (joined[i] == from) {
                    joined[i] = joined[a];
                }
            }
        }

        int find(int itsName) {
            for (int i = 0; i < count; i++) {
                if (name[i] == itsName) {
                    return i;
                }
            }
            return NONE;
        }

        void fix(int i, int format) {
            if (i >= 0 && i < count) {
                fixedAs[i] = format;
            }
        }

        void allow(int i, int error) {
            if (i >= 0 && i < count) {
                allowed[i] = error;
            }
        }

        int madeOf(int i, int side) {
            return i >= 0 && i < count && side >= 0 && side < 2 ? made[2 * i + side] : NONE;
        }

        long amountOf(int i, int side) {
            return i >= 0 && i < count && side >= 0 && side < 2 ? amount[2 * i + side] : 0;
        }

        int countAnswers(int ahead) {
            int many = 0;
            for (int i = 0; i < ahead && i < count; i++) {
                many += allowed[i] != NONE ? 1 : 0;
            }
            return many;
        }

        int madeFrom(int from) {
            int bits = 0;
            for (int i = from + 1; i < count; i++) {
                if (isAmong(from, bits, madeOf(i, 0)) || isAmong(from, bits, madeOf(i, 1))) {
                    bits |= 1 << i;
                }
            }
            return bits;
        }

        private static boolean isAmong(int from, int bits, int i) {
            return i == from || i >= 0 && ((bits >> i) & 1) == 1;
        }
    }

    /** GROUPS, by their least NUMBERS. */
    private static final class Groups {
        static final int UNLIKE = -2;

        int count;
        int free;
        boolean clash;
        final int[] of = new int[MOST_NUMBERS];
        final int[] fixedAs = new int[MOST_NUMBERS];
        private final int[] leader = new int[MOST_NUMBERS];

        void gather(Numbers numbers) {
            count = 0;
            clash = false;
            for (int i = 0; i < numbers.count; i++) {
                of[i] = earlierGroup(numbers, i);
                if (of[i] == NONE) {
                    of[i] = count;
                    leader[count] = i;
                    fixedAs[count] = NONE;
                    count++;
                }
                fix(of[i], numbers.fixedAs[i]);
            }
            free = 0;
            for (int g = 0; g < count; g++) {
                free += fixedAs[g] == NONE ? 1 : 0;
            }
        }

        private int earlierGroup(Numbers numbers, int i) {
            for (int j = 0; j < i; j++) {
                if (numbers.joined[j] == numbers.joined[i]) {
                    return of[j];
                }
            }
            return NONE;
        }

        private void fix(int group, int format) {
            if (format == NONE || fixedAs[group] == format) {
                return;
            }
            clash = clash || fixedAs[group] != NONE;
            fixedAs[group] = fixedAs[group] == NONE ? format : UNLIKE;
        }

        boolean isFree(int group) {
            return group >= 0 && group < count && fixedAs[group] == NONE;
        }

        int leaderOf(int group) {
            return group >= 0 && group < count ? leader[group] : NONE;
        }

        /** The CHOICE with one FORMAT for all FREE GROUPS. */
        void fillFree(int[] choice, int format) {
            for (int g = 0; g < count && g < choice.length; g++) {
                choice[g] = fixedAs[g] == NONE ? format : fixedAs[g];
            }
        }
    }

    /** Least and greatest of each NUMBER, reckoned, or as a CERTIFICATE says. */
    private static final class Ranges {
        private static final long MOST_AMOUNT = 1000000000L;
        // Above MOST_AMOUNT no answer tells by how much, and two such still multiply as long.
        private static final long HELD_WITHIN = 2000000000L;

        final long[] low = new long[MOST_NUMBERS];
        final long[] high = new long[MOST_NUMBERS];
        final boolean[] wide = new boolean[MOST_NUMBERS];

        /** All of them, with the box of one input (or NONE) longer at both ends. */
        void fill(Numbers numbers, int input, int longer) {
            for (int i = 0; i < numbers.count; i++) {
                long more = i == input ? longer : 0;
                low[i] = held(lowest(numbers, i) - more);
                high[i] = held(highest(numbers, i) + more);
                wide[i] = amountOf(i) > MOST_AMOUNT
                    || isWide(numbers.madeOf(i, 0)) || isWide(numbers.madeOf(i, 1));
            }
        }

        private static long held(long amount) {
            return Math.max(-HELD_WITHIN, Math.min(HELD_WITHIN, amount));
        }

        private boolean isWide(int made) {
            return made >= 0 && made < MOST_NUMBERS && wide[made];
        }

        long amountOf(int i) {
            return Math.max(Math.abs(low[i]), Math.abs(high[i]));
        }

        long amountOfWhat(Numbers numbers, int i, int side) {
            int made = numbers.madeOf(i, side);
            if (made < 0 || made >= i) {
                return Math.abs(numbers.amountOf(i, side));
            }
            return Math.max(Math.abs(low[made]), Math.abs(high[made]));
        }

        private long lowOf(Numbers numbers, int i, int side) {
            int made = numbers.madeOf(i, side);
            return made >= 0 && made < i ? low[made] : numbers.amountOf(i, side);
        }

        private long highOf(Numbers numbers, int i, int side) {
            int made = numbers.madeOf(i, side);
            return made >= 0 && made < i ? high[made] : numbers.amountOf(i, side);
        }

        /** The least of a NUMBER by what stands here of those that it is made of. */
        long lowest(Numbers numbers, int i) {
            int op = numbers.op[i];
            long a = lowOf(numbers, i, 0);
            if (op == INPUT) {
                return a;
            }
            if (op != TIMES) {
                long b = op == MINUS ? highOf(numbers, i, 1) : lowOf(numbers, i, 1);
                return apply(op, a, b, 1);
            }
            return Math.min(endProduct(numbers, i, a, false),
                endProduct(numbers, i, highOf(numbers, i, 0), false));
        }

        /** The greatest of a NUMBER, likewise. */
        long highest(Numbers numbers, int i) {
            int op = numbers.op[i];
            if (op == INPUT) {
                return highOf(numbers, i, 1);
            }
            long a = highOf(numbers, i, 0);
            if (op != TIMES) {
                long b = op == MINUS ? lowOf(numbers, i, 1) : highOf(numbers, i, 1);
                return apply(op, a, b, 1);
            }
            return Math.max(endProduct(numbers, i, a, true),
                endProduct(numbers, i, lowOf(numbers, i, 0), true));
        }

        private long endProduct(Numbers numbers, int i, long a, boolean greatest) {
            long x = apply(TIMES, a, lowOf(numbers, i, 1), 1);
            long y = apply(TIMES, a, highOf(numbers, i, 1), 1);
            return greatest ? Math.max(x, y) : Math.min(x, y);
        }
    }

    /** ERRORS of a CHOICE, up to the NUMBER at which it FAILS. */
    private static final class Reckoning {
        final long[] errors = new long[MOST_NUMBERS];
        int failsAt;
        int reason;

        boolean reckon(Task task, Ranges ranges, int[] choice) {
            failsAt = IT_PASSES;
            reason = 0;
            for (int i = 0; i < task.numbers.count; i++) {
                errors[i] = errorOf(task, ranges, choice, i);
                int most = task.mostOf(task.formatOf(choice, i));
                if (ranges.amountOf(i) + errors[i] > most) {
                    reason = 1;
                } else if (task.isAnswer(i) && errors[i] > task.numbers.allowed[i]) {
                    reason = 2;
                }
                if (reason != 0) {
                    failsAt = i;
                    return false;
                }
            }
            return true;
        }

        /** ERROR of a NUMBER by what stands here of those that it is made of. */
        long errorOf(Task task, Ranges ranges, int[] choice, int i) {
            int step = task.stepOf(task.formatOf(choice, i));
            long half = step / 2;
            int op = task.numbers.op[i];
            if (op == INPUT) {
                return half;
            }
            long a = errorBehindCast(task, choice, i, 0);
            long b = errorBehindCast(task, choice, i, 1);
            if (op == LESSER || op == GREATER) {
                return Math.max(a, b);
            }
            if (op != TIMES) {
                return a + b;
            }
            long first = ranges.amountOfWhat(task.numbers, i, 0);
            long second = ranges.amountOfWhat(task.numbers, i, 1);
            return (first * b + second * a + a * b + 999) / 1000 + half + 1;
        }

        private long errorBehindCast(Task task, int[] choice, int i, int side) {
            int step = task.stepOf(task.formatOf(choice, i));
            long half = step / 2;
            int made = task.numbers.madeOf(i, side);
            if (made < 0 || made >= i) {
                return divides(step, task.numbers.amountOf(i, side)) ? 0 : half;
            }
            int ownStep = task.stepOf(task.formatOf(choice, made));
            return errors[made] + (divides(step, ownStep) ? 0 : half);
        }
    }

    /** All CHOICES that PASS, found once for a TASK. */
    private static final class FullSearch {
        // What passes has ERRORS of ANSWERS of at most a million.
        private static final int ABOVE_ALL_ERRORS = 1000001;

        private final Reckoning reckoning = new Reckoning();
        private final int[] choice = new int[MOST_NUMBERS];
        private boolean ready;
        private int answers;
        private int[] prices = new int[0];
        private int[] errors = new int[0];
        int many;
        int best = NONE;
        int bestPrice;
        private int frontOf = NONE;
        int frontSize;
        int[] frontPrice = new int[0];
        int[] frontError = new int[0];
        int[] frontMany = new int[0];

        void forget() {
            ready = false;
            frontOf = NONE;
        }

        /** False: without a TASK, or with too many FREE GROUPS. */
        boolean search(Task task) {
            if (task.numbers.count == 0 || task.groups.free > MOST_FREE_GROUPS) {
                return false;
            }
            if (!ready) {
                ready = true;
                many = 0;
                best = NONE;
                if (task.hasChoice()) {
                    searchAll(task);
                }
            }
            return true;
        }

        private void searchAll(Task task) {
            int choices = 1;
            for (int g = 0; g < task.groups.free && g < MOST_FREE_GROUPS; g++) {
                choices *= task.formats;
            }
            answers = task.numbers.countAnswers(task.numbers.count);
            makeRoom(choices);
            for (int c = 0; c < choices; c++) {
                unfold(task, c, choice);
                if (reckoning.reckon(task, task.ranges, choice)) {
                    keep(task, c, task.priceOf(choice));
                }
            }
        }

        private void makeRoom(int choices) {
            if (prices.length < choices) {
                prices = new int[choices];
                frontPrice = new int[choices];
                frontError = new int[choices];
                frontMany = new int[choices];
            }
            if (errors.length < choices * answers) {
                errors = new int[choices * answers];
            }
        }

        /** CHOICE c, so counted that the last FREE GROUP changes first. */
        static void unfold(Task task, int c, int[] into) {
            int rest = c;
            for (int g = task.groups.count - 1; g >= 0; g--) {
                int fixed = task.groups.fixedAs[g];
                into[g] = fixed;
                if (fixed == NONE && task.formats > 0) {
                    into[g] = rest % task.formats;
                    rest /= task.formats;
                }
            }
        }

        private void keep(Task task, int c, int price) {
            if (many >= prices.length) {
                return;
            }
            prices[many] = price;
            int at = many * answers;
            for (int i = 0; i < task.numbers.count; i++) {
                if (task.isAnswer(i) && at < errors.length) {
                    errors[at] = (int) reckoning.errors[i];
                    at++;
                }
            }
            if (best == NONE || price < bestPrice) {
                best = c;
                bestPrice = price;
            }
            many++;
        }

        private int errorAt(int p, int slot) {
            int at = p * answers + slot;
            return at >= 0 && at < errors.length ? errors[at] : ABOVE_ALL_ERRORS;
        }

        long leastWithin(Task task, int answer, int price) {
            int slot = task.numbers.countAnswers(answer);
            long least = NOTHING;
            for (int p = 0; p < many; p++) {
                if (prices[p] <= price && (least == NOTHING || errorAt(p, slot) < least)) {
                    least = errorAt(p, slot);
                }
            }
            return least;
        }

        void drawFront(Task task, int answer) {
            if (frontOf == answer) {
                return;
            }
            frontOf = answer;
            frontSize = 0;
            int slot = task.numbers.countAnswers(answer);
            int below = ABOVE_ALL_ERRORS;
            for (int k = 0; k < many; k++) {
                int p = cheapestBelow(slot, below);
                if (p == NONE) {
                    return;
                }
                below = errorAt(p, slot);
                frontPrice[k] = prices[p];
                frontError[k] = below;
                frontMany[k] = countAlike(slot, prices[p], below);
                frontSize++;
            }
        }

        private int cheapestBelow(int slot, int below) {
            int found = NONE;
            for (int p = 0; p < many; p++) {
                int error = errorAt(p, slot);
                if (error < below && (found == NONE || prices[p] < prices[found]
                        || prices[p] == prices[found] && error < errorAt(found, slot))) {
                    found = p;
                }
            }
            return found;
        }

        private int countAlike(int slot, int price, int error) {
            int alike = 0;
            for (int p = 0; p < many; p++) {
                alike += prices[p] == price && errorAt(p, slot) == error ? 1 : 0;
            }
            return alike;
        }
    }

    /** Searches that go from one CHOICE to the next: BY HALVES, SINGLE changes. */
    private static final class LocalSearch {
        private static final int MOST_PARTS = 2 * MOST_NUMBERS;

        private final Reckoning reckoning = new Reckoning();
        private final int[] near = new int[MOST_NUMBERS];
        private boolean ready;
        private boolean started;
        private final boolean[] changed = new boolean[MOST_NUMBERS];
        private final int[] unchanged = new int[MOST_NUMBERS];
        private final int[] partFrom = new int[MOST_PARTS];
        private final int[] partTo = new int[MOST_PARTS];
        private int parts;
        final int[] row = new int[MOST_NUMBERS];
        int price;
        int tries;
        int passed;
        int cheaper;
        int bestGroup = NONE;
        int bestFormat = NONE;

        void forget() {
            ready = false;
        }

        /** False: there is no CHOICE, or the first one does not PASS. */
        boolean goByHalves(Task task) {
            if (!task.hasChoice()) {
                return false;
            }
            if (ready) {
                return started;
            }
            ready = true;
            int finest = task.finestFormat();
            task.groups.fillFree(row, finest);
            for (int g = 0; g < MOST_NUMBERS; g++) {
                changed[g] = false;
            }
            tries = 1;
            started = reckoning.reckon(task, task.ranges, row);
            price = task.priceOf(row);
            for (int f = 0; started && f < task.formats; f++) {
                if (f != finest) {
                    halveWith(task, f, finest);
                }
            }
            return started;
        }

        private void halveWith(Task task, int format, int finest) {
            int many = findUnchanged(task);
            parts = 0;
            if (many > 0) {
                addPart(0, many);
            }
            for (int p = 0; p < parts && p < MOST_PARTS; p++) {
                int from = partFrom[p];
                int to = partTo[p];
                tries++;
                if (!changePart(task, from, to, format, finest) && to - from >= 2) {
                    int middle = from + (to - from) / 2;
                    addPart(from, middle);
                    addPart(middle, to);
                }
            }
        }

        private int findUnchanged(Task task) {
            int many = 0;
            for (int g = 0; g < task.groups.count; g++) {
                if (task.groups.fixedAs[g] == NONE && !changed[g]) {
                    unchanged[many] = g;
                    many++;
                }
            }
            return many;
        }

        private void addPart(int from, int to) {
            if (parts < MOST_PARTS) {
                partFrom[parts] = from;
                partTo[parts] = to;
                parts++;
            }
        }

        private boolean changePart(Task task, int from, int to, int format, int finest) {
            setPart(from, to, format);
            int now = task.priceOf(row);
            if (now >= price || !reckoning.reckon(task, task.ranges, row)) {
                setPart(from, to, finest);
                return false;
            }
            price = now;
            for (int k = from; k < to; k++) {
                changed[unchanged[k]] = true;
            }
            return true;
        }

        private void setPart(int from, int to, int format) {
            for (int k = from; k < to; k++) {
                row[unchanged[k]] = format;
            }
        }

        /** All SINGLE changes of a CHOICE. */
        void lookAround(Task task, int[] choice) {
            passed = 0;
            cheaper = 0;
            bestGroup = NONE;
            bestFormat = NONE;
            copyChoice(choice, near);
            int had = task.priceOf(choice);
            int best = had;
            for (int g = 0; g < task.groups.count; g++) {
                for (int f = 0; task.groups.fixedAs[g] == NONE && f < task.formats; f++) {
                    near[g] = f;
                    if (f != choice[g] && reckoning.reckon(task, task.ranges, near)) {
                        int now = task.priceOf(near);
                        passed++;
                        cheaper += now < had ? 1 : 0;
                        if (now < best) {
                            best = now;
                            bestGroup = g;
                            bestFormat = f;
                        }
                    }
                }
                near[g] = choice[g];
            }
        }
    }

    /** A CERTIFICATE, checked line by line by what it says itself. */
    private static final class CertificateReader {
        private static final long HELD_WITHIN = 1000000000000L;

        private final Ranges said = new Ranges();
        private final Reckoning saidErrors = new Reckoning();
        private final int[] choice = new int[MOST_NUMBERS];
        int breaksAt = NONE;
        int reason = NONE;

        void forget() {
            breaksAt = NONE;
            reason = NONE;
        }

        boolean holds(byte[] tape, int length, Task task) {
            forget();
            int count = task.numbers.count;
            if (count == 0 || length != CERTIFICATE_ROW * count || length > tape.length) {
                return false;
            }
            task.groups.fillFree(choice, NONE);
            for (int i = 0; i < count; i++) {
                int at = i * CERTIFICATE_ROW;
                int wrong = whyNot(task, i, tape[at] & 255, tape);
                if (wrong != 0) {
                    breaksAt = i;
                    reason = wrong;
                    return false;
                }
            }
            breaksAt = IT_PASSES;
            reason = 0;
            return true;
        }

        private int whyNot(Task task, int i, int format, byte[] tape) {
            int group = task.groups.of[i];
            boolean agrees = choice[group] == NONE || choice[group] == format;
            if (!task.hasFormat(format) || !agrees) {
                return 1;
            }
            choice[group] = format;
            int at = i * CERTIFICATE_ROW;
            said.low[i] = readLong(tape, at + 1);
            said.high[i] = readLong(tape, at + 9);
            saidErrors.errors[i] = readLong(tape, at + 17);
            if (said.low[i] > said.lowest(task.numbers, i)) {
                return 2;
            }
            if (said.high[i] < said.highest(task.numbers, i)) {
                return 3;
            }
            long error = saidErrors.errors[i];
            if (error < saidErrors.errorOf(task, said, choice, i)) {
                return 4;
            }
            if (said.amountOf(i) + error > task.mostOf(format)) {
                return 5;
            }
            return task.isAnswer(i) && error > task.numbers.allowed[i] ? 6 : 0;
        }

        private static long readLong(byte[] tape, int at) {
            long value = 0;
            for (int k = at; k < at + 8 && k < tape.length; k++) {
                value = (value << 8) | (tape[k] & 255);
            }
            return Math.max(-HELD_WITHIN, Math.min(HELD_WITHIN, value));
        }
    }

    /** TRIALS: all NUMBERS as they are EXACT, as they are KEPT. */
    private static final class Sampler {
        private static final long DRAWS = 1L << 31;

        final long[] exact = new long[MOST_NUMBERS];
        final long[] kept = new long[MOST_NUMBERS];

        /** One TRIAL: the seed behind it. */
        int sample(Task task, int[] choice, int seed) {
            long x = seed;
            for (int i = 0; i < task.numbers.count; i++) {
                int step = task.stepOf(task.formatOf(choice, i));
                int op = task.numbers.op[i];
                if (op == INPUT) {
                    x = (1103515245L * x + 12345) % DRAWS;
                    long least = task.numbers.amountOf(i, 0);
                    long size = task.numbers.amountOf(i, 1) - least + 1;
                    exact[i] = least + x * size / DRAWS;
                    kept[i] = nearest(exact[i], 1, step);
                } else {
                    exact[i] = apply(op, whatOf(task, exact, i, 0), whatOf(task, exact, i, 1), 1);
                    long a = nearest(whatOf(task, kept, i, 0), 1, step);
                    long b = nearest(whatOf(task, kept, i, 1), 1, step);
                    kept[i] = apply(op, a, b, step);
                }
            }
            return (int) x;
        }

        private static long whatOf(Task task, long[] values, int i, int side) {
            int made = task.numbers.madeOf(i, side);
            return made >= 0 && made < i ? values[made] : task.numbers.amountOf(i, side);
        }
    }
}
