import java.io.ByteArrayOutputStream;
import java.math.BigInteger;
import java.nio.ByteBuffer;
import java.nio.charset.StandardCharsets;
import java.util.ArrayDeque;
import java.util.ArrayList;
import java.util.Arrays;
import java.util.List;
import java.util.Map;
import java.util.TreeMap;
import java.util.regex.Matcher;
import java.util.regex.Pattern;

/**
 * The document once more, written apart from the class and by other means
 * (patterns for statements, big numbers, lists), to compare answers with.
 */
final class Model {
    private static final long NOTHING = -1000000000000000L;
    private static final List<String> OWN = List.of("format", "step", "most", "cost", "cast", "input",
        "let", "min", "max", "fixed", "group", "answer", "within");
    private static final Map<String, String> SHAPES = Map.of(
        "format", "new step 1:1000000 most 1:1000000000 cost 0:999",
        "cast", "0:999",
        "input", "new v-10000000:10000000 w-10000000:10000000",
        "let", "new = what op what",
        "fixed", "num fmt",
        "group", "num other",
        "answer", "num within 0:1000000");

    record Format(String name, long step, long most, long cost) { }

    static final class Num {
        String name;
        String op = "";
        Object[] whats = new Object[2];
        Integer fixed;
        Integer may;
        int tag;
    }

    static final class Told {
        final List<Format> formats = new ArrayList<>();
        final List<Num> nums = new ArrayList<>();
        int cast = 1;

        int num(String name) {
            for (int i = 0; i < nums.size(); i++) {
                if (nums.get(i).name.equals(name)) {
                    return i;
                }
            }
            return -1;
        }

        int fmt(String name) {
            for (int i = 0; i < formats.size(); i++) {
                if (formats.get(i).name().equals(name)) {
                    return i;
                }
            }
            return -1;
        }
    }

    static final class Fault extends RuntimeException {
        private static final long serialVersionUID = 1L;
        final int kind;
        final int place;

        Fault(int kind, int place) {
            this.kind = kind;
            this.place = place;
        }
    }

    record Token(String text, int at, int to) { }

    record Verdict(int fails, int why, List<BigInteger> errors) {
        boolean passes() {
            return fails == -2;
        }
    }

    private final ByteArrayOutputStream tape = new ByteArrayOutputStream();
    private Told told;
    private int[] hand;
    private int faultKind;
    private int faultPlace = -1;
    private int brokenAt = -1;
    private int brokenWhy = -1;
    private long seed = 1;
    private final int[] refused = new int[5];
    private List<int[]> allPassing;

    // ---- reading

    private static List<Token> tokens(String text) {
        List<Token> found = new ArrayList<>();
        Matcher m = Pattern.compile("[a-z]+|[0-9]+|[^ \n]", Pattern.DOTALL).matcher(text);
        while (m.find()) {
            found.add(new Token(m.group(), m.start(), m.end()));
        }
        found.add(new Token("", text.length(), text.length()));
        return found;
    }

    private static boolean isWord(Token t) {
        return t.text().matches("[a-z]+");
    }

    private static boolean isDigits(Token t) {
        return t.text().matches("[0-9]+");
    }

    private static final class Reading {
        final List<Token> tokens;
        final Told told = new Told();
        int next;

        Reading(String text) {
            tokens = tokens(text);
        }

        Token take() {
            Token t = tokens.get(next);
            if (t.text().isEmpty()) {
                throw new Fault(1, t.at());
            }
            if (next > 0) {
                Token before = tokens.get(next - 1);
                boolean touch = before.to() == t.at();
                if (touch && (isWord(before) && isDigits(t) || isDigits(before) && isWord(t))) {
                    throw new Fault(1, t.at());
                }
            }
            if (isWord(t) && t.text().length() > 6 || isDigits(t) && t.text().length() > 8) {
                throw new Fault(1, t.at());
            }
            next++;
            return t;
        }

        Token name() {
            Token t = take();
            if (!isWord(t) || OWN.contains(t.text())) {
                throw new Fault(1, t.at());
            }
            return t;
        }

        int value(boolean signed, int from, int to) {
            Token first = take();
            Token digits = signed && first.text().equals("-") ? take() : first;
            if (!isDigits(digits)) {
                throw new Fault(1, digits.at());
            }
            int v = Integer.parseInt(digits.text()) * (digits == first ? 1 : -1);
            if (v < from || v > to) {
                throw new Fault(2, first.at());
            }
            return v;
        }

        Object what() {
            if (isWord(tokens.get(next))) {
                return number();
            }
            return BigInteger.valueOf(value(true, -1000000, 1000000));
        }

        Integer number() {
            Token t = name();
            if (told.num(t.text()) < 0) {
                throw new Fault(3, t.at());
            }
            return told.num(t.text());
        }

        Object part(String shape, List<Object> got) {
            if (shape.equals("new")) {
                Token t = name();
                if (told.num(t.text()) >= 0 || told.fmt(t.text()) >= 0) {
                    throw new Fault(3, t.at());
                }
                return t.text();
            }
            if (shape.equals("num")) {
                return number();
            }
            if (shape.equals("other")) {
                int at = tokens.get(next).at();
                Integer n = number();
                if (n.equals(got.get(0))) {
                    throw new Fault(3, at);
                }
                return n;
            }
            if (shape.equals("fmt")) {
                Token t = name();
                if (told.fmt(t.text()) < 0) {
                    throw new Fault(3, t.at());
                }
                return told.fmt(t.text());
            }
            if (shape.equals("what")) {
                return what();
            }
            if (shape.equals("op")) {
                Token t = take();
                if (!List.of("+", "-", "*", "min", "max").contains(t.text())) {
                    throw new Fault(1, t.at());
                }
                return t.text();
            }
            if (shape.contains(":")) {
                boolean signed = !Character.isDigit(shape.charAt(0));
                String[] ends = (signed ? shape.substring(1) : shape).split(":");
                int from = shape.startsWith("w") ? (Integer) got.get(1) : Integer.parseInt(ends[0]);
                return value(signed, from, Integer.parseInt(ends[1]));
            }
            Token t = take();
            if (!t.text().equals(shape)) {
                throw new Fault(1, t.at());
            }
            return shape;
        }

        void statement(int before) {
            Token t = take();
            String word = t.text();
            if (!SHAPES.containsKey(word)) {
                throw new Fault(1, t.at());
            }
            boolean isNumber = word.equals("input") || word.equals("let");
            if (before == 40 || word.equals("format") && told.formats.size() == 4
                    || isNumber && told.nums.size() == 14) {
                throw new Fault(4, t.at());
            }
            List<Object> got = new ArrayList<>();
            for (String shape : SHAPES.get(word).split(" ")) {
                got.add(part(shape, got));
            }
            Token semicolon = take();
            if (!semicolon.text().equals(";")) {
                throw new Fault(1, semicolon.at());
            }
            told(word, got);
        }

        void told(String word, List<Object> got) {
            switch (word) {
                case "format" -> told.formats.add(new Format((String) got.get(0), (Integer) got.get(2),
                    (Integer) got.get(4), (Integer) got.get(6)));
                case "cast" -> told.cast = (Integer) got.get(0);
                case "input", "let" -> {
                    Num n = new Num();
                    n.name = (String) got.get(0);
                    n.tag = told.nums.size();
                    if (word.equals("let")) {
                        n.op = (String) got.get(3);
                        n.whats = new Object[] {got.get(2), got.get(4)};
                    } else {
                        n.whats = new Object[] {big((Integer) got.get(1)), big((Integer) got.get(2))};
                    }
                    told.nums.add(n);
                }
                case "fixed" -> told.nums.get((Integer) got.get(0)).fixed = (Integer) got.get(1);
                case "group" -> {
                    int a = told.nums.get((Integer) got.get(0)).tag;
                    int b = told.nums.get((Integer) got.get(1)).tag;
                    for (Num n : told.nums) {
                        if (n.tag == a || n.tag == b) {
                            n.tag = Math.min(a, b);
                        }
                    }
                }
                default -> told.nums.get((Integer) got.get(0)).may = (Integer) got.get(2);
            }
        }

        Told all() {
            int statements = 0;
            while (!tokens.get(next).text().isEmpty()) {
                statement(statements);
                statements++;
            }
            if (told.formats.isEmpty() || told.nums.isEmpty()) {
                throw new Fault(4, tokens.get(next).at());
            }
            return told;
        }
    }

    private static BigInteger big(long v) {
        return BigInteger.valueOf(v);
    }

    // ---- what the document reckons

    private int size() {
        return told == null ? 0 : told.nums.size();
    }

    private Num num(int i) {
        return i >= 0 && i < size() ? told.nums.get(i) : null;
    }

    /** Tags are least NUMBERS of GROUPS. */
    private List<Integer> leaders() {
        List<Integer> found = new ArrayList<>();
        for (int i = 0; i < size(); i++) {
            if (told.nums.get(i).tag == i) {
                found.add(i);
            }
        }
        return found;
    }

    private List<Integer> fixedIn(int leader) {
        List<Integer> found = new ArrayList<>();
        for (Num n : told.nums) {
            if (n.tag == leader && n.fixed != null && !found.contains(n.fixed)) {
                found.add(n.fixed);
            }
        }
        return found;
    }

    private List<Integer> freeLeaders() {
        List<Integer> found = new ArrayList<>();
        for (int leader : leaders()) {
            if (fixedIn(leader).isEmpty()) {
                found.add(leader);
            }
        }
        return found;
    }

    private boolean isFree(int i) {
        return num(i) != null && freeLeaders().contains(num(i).tag);
    }

    /** FORMATS by NUMBERS, all FREE ones alike; null: there is none. */
    private int[] allIn(int format) {
        if (size() == 0) {
            return null;
        }
        int[] choice = new int[size()];
        for (int i = 0; i < size(); i++) {
            List<Integer> fixed = fixedIn(num(i).tag);
            if (fixed.size() > 1) {
                return null;
            }
            choice[i] = fixed.isEmpty() ? format : fixed.get(0);
        }
        return choice;
    }

    private int[] changed(int[] choice, int leader, int format) {
        int[] copy = choice.clone();
        for (int i = 0; i < size(); i++) {
            if (num(i).tag == leader) {
                copy[i] = format;
            }
        }
        return copy;
    }

    private static BigInteger gauss(BigInteger top, BigInteger bottom) {
        BigInteger[] parts = top.divideAndRemainder(bottom);
        return parts[1].signum() < 0 ? parts[0].subtract(BigInteger.ONE) : parts[0];
    }

    /** Nearest multiple of step to top / bottom: both neighbours are tried. */
    private static BigInteger rounded(BigInteger top, BigInteger bottom, BigInteger step) {
        BigInteger below = gauss(top, bottom.multiply(step)).multiply(step);
        BigInteger above = below.add(step);
        BigInteger toBelow = top.subtract(below.multiply(bottom)).abs();
        BigInteger toAbove = top.subtract(above.multiply(bottom)).abs();
        return toBelow.compareTo(toAbove) < 0 ? below : above;
    }

    private static BigInteger go(String op, BigInteger a, BigInteger b, BigInteger step) {
        return switch (op) {
            case "+" -> a.add(b);
            case "-" -> a.subtract(b);
            case "min" -> a.min(b);
            case "max" -> a.max(b);
            default -> rounded(a.multiply(b), big(1000), step);
        };
    }

    private static BigInteger[] rangeOf(Num n, BigInteger[] x, BigInteger[] y) {
        BigInteger one = BigInteger.ONE;
        if (n.op.equals("-")) {
            return new BigInteger[] {x[0].subtract(y[1]), x[1].subtract(y[0])};
        }
        if (!n.op.equals("*")) {
            return new BigInteger[] {go(n.op, x[0], y[0], one), go(n.op, x[1], y[1], one)};
        }
        List<BigInteger> products = new ArrayList<>();
        for (BigInteger a : x) {
            for (BigInteger b : y) {
                products.add(go("*", a, b, one));
            }
        }
        products.sort(null);
        return new BigInteger[] {products.get(0), products.get(3)};
    }

    private static BigInteger[] whatRange(Object what, List<BigInteger[]> ranges) {
        return what instanceof Integer i ? ranges.get(i) : new BigInteger[] {(BigInteger) what, (BigInteger) what};
    }

    private List<BigInteger[]> ranges(int input, long longer) {
        List<BigInteger[]> found = new ArrayList<>();
        for (int i = 0; i < size(); i++) {
            Num n = num(i);
            if (n.op.isEmpty()) {
                BigInteger more = big(i == input ? longer : 0);
                found.add(new BigInteger[] {((BigInteger) n.whats[0]).subtract(more), ((BigInteger) n.whats[1]).add(more)});
            } else {
                found.add(rangeOf(n, whatRange(n.whats[0], found), whatRange(n.whats[1], found)));
            }
        }
        return found;
    }

    private static BigInteger amount(BigInteger[] range) {
        return range[0].abs().max(range[1].abs());
    }

    private BigInteger errorBehindCast(Object what, int format, int[] choice, List<BigInteger> errors) {
        long step = told.formats.get(format).step();
        if (what instanceof Integer i) {
            boolean exact = told.formats.get(choice[i]).step() % step == 0;
            return exact ? errors.get(i) : errors.get(i).add(big(step / 2));
        }
        return ((BigInteger) what).mod(big(step)).signum() == 0 ? BigInteger.ZERO : big(step / 2);
    }

    private BigInteger errorOf(int i, int[] choice, List<BigInteger> errors, List<BigInteger[]> ranges) {
        Num n = num(i);
        BigInteger h = big(told.formats.get(choice[i]).step() / 2);
        if (n.op.isEmpty()) {
            return h;
        }
        BigInteger a = errorBehindCast(n.whats[0], choice[i], choice, errors);
        BigInteger b = errorBehindCast(n.whats[1], choice[i], choice, errors);
        if (n.op.equals("+") || n.op.equals("-")) {
            return a.add(b);
        }
        if (!n.op.equals("*")) {
            return a.max(b);
        }
        BigInteger top = amount(whatRange(n.whats[0], ranges)).multiply(b)
            .add(amount(whatRange(n.whats[1], ranges)).multiply(a)).add(a.multiply(b));
        BigInteger up = gauss(top.negate(), big(1000)).negate();
        return up.add(h).add(BigInteger.ONE);
    }

    private Verdict judge(int[] choice, List<BigInteger[]> ranges) {
        List<BigInteger> errors = new ArrayList<>();
        for (int i = 0; i < size(); i++) {
            BigInteger error = errorOf(i, choice, errors, ranges);
            errors.add(error);
            if (amount(ranges.get(i)).add(error).compareTo(big(told.formats.get(choice[i]).most())) > 0) {
                return new Verdict(i, 1, errors);
            }
            if (num(i).may != null && error.compareTo(big(num(i).may)) > 0) {
                return new Verdict(i, 2, errors);
            }
        }
        return new Verdict(-2, 0, errors);
    }

    private Verdict judge(int[] choice) {
        return judge(choice, ranges(-1, 0));
    }

    private boolean handPasses() {
        return hand != null && judge(hand).passes();
    }

    private int castsIn(int[] choice) {
        int many = 0;
        for (int i = 0; i < size(); i++) {
            if (!num(i).op.isEmpty()) {
                for (Object what : num(i).whats) {
                    many += what instanceof Integer w && choice[w] != choice[i] ? 1 : 0;
                }
            }
        }
        return many;
    }

    private int costIn(int[] choice) {
        int sum = castsIn(choice) * told.cast;
        for (int format : choice) {
            sum += (int) told.formats.get(format).cost();
        }
        return sum;
    }

    private int least() {
        int best = 0;
        for (int f = 1; f < told.formats.size(); f++) {
            best = told.formats.get(f).step() < told.formats.get(best).step() ? f : best;
        }
        return best;
    }

    // ---- the calls

    int feed(int... five) {
        if (tape.size() + 20 > 1200) {
            refused[0]++;
            return -1;
        }
        ByteBuffer bytes = ByteBuffer.allocate(20);
        for (int x : five) {
            bytes.putInt(x);
        }
        tape.writeBytes(bytes.array());
        return tape.size();
    }

    boolean end(int n) {
        if (n < 0 || n > tape.size()) {
            refused[0]++;
            return false;
        }
        byte[] kept = Arrays.copyOf(tape.toByteArray(), n);
        tape.reset();
        tape.writeBytes(kept);
        return true;
    }

    int task() {
        String text = new String(tape.toByteArray(), StandardCharsets.ISO_8859_1);
        tape.reset();
        try {
            told = new Reading(text).all();
            faultKind = 0;
            faultPlace = -1;
            hand = allIn(0);
            allPassing = null;
            brokenAt = -1;
            brokenWhy = -1;
            return size();
        } catch (Fault fault) {
            faultKind = fault.kind;
            faultPlace = fault.place;
            refused[1]++;
            return -1;
        }
    }

    int fault(int what) {
        return what == 0 ? faultKind : what == 1 ? faultPlace : -1;
    }

    int has(int what) {
        if (what == 7) {
            return (int) seed;
        }
        if (what < 0 || what > 7) {
            return -1;
        }
        if (told == null) {
            return 0;
        }
        return switch (what) {
            case 0 -> size();
            case 1 -> told.formats.size();
            case 2 -> (int) told.nums.stream().filter(n -> n.op.isEmpty()).count();
            case 3 -> (int) told.nums.stream().filter(n -> n.may != null).count();
            case 4 -> leaders().size();
            case 5 -> freeLeaders().size();
            default -> told.cast;
        };
    }

    int letter(int which, boolean isFormat, int k) {
        int many = told == null ? 0 : isFormat ? told.formats.size() : size();
        if (which < 0 || which >= many || k < 0 || k > 5) {
            return -1;
        }
        String name = isFormat ? told.formats.get(which).name() : num(which).name;
        return k < name.length() ? name.charAt(k) - 96 : 0;
    }

    int format(int format, int what) {
        if (told == null || format < 0 || format >= told.formats.size()) {
            return -1;
        }
        Format f = told.formats.get(format);
        return (int) (what == 0 ? f.step() : what == 1 ? f.most() : what == 2 ? f.cost() : -1);
    }

    int number(int i, int what) {
        Num n = num(i);
        if (n == null) {
            return -2;
        }
        return switch (what) {
            case 0 -> List.of("", "+", "-", "*", "min", "max").indexOf(n.op);
            case 1, 2 -> n.whats[what - 1] instanceof Integer w ? w : -1;
            case 3 -> leaders().indexOf(n.tag);
            case 4 -> n.fixed == null ? -1 : n.fixed;
            case 5 -> n.may == null ? -1 : n.may;
            default -> -2;
        };
    }

    long told(int i, int which) {
        Num n = num(i);
        return n != null && (which == 0 || which == 1) && n.whats[which] instanceof BigInteger v
            ? v.longValueExact() : NOTHING;
    }

    private boolean isTooWide(Object what, List<BigInteger[]> ranges) {
        if (!(what instanceof Integer i)) {
            return false;
        }
        return amount(ranges.get(i)).compareTo(big(1000000000)) > 0
            || isTooWide(num(i).whats[0], ranges) || isTooWide(num(i).whats[1], ranges);
    }

    long range(int i, boolean greatest) {
        if (num(i) == null) {
            return NOTHING;
        }
        List<BigInteger[]> ranges = ranges(-1, 0);
        return isTooWide(i, ranges) ? NOTHING : ranges.get(i)[greatest ? 1 : 0].longValueExact();
    }

    private boolean isMadeOf(int made, int of) {
        for (Object what : num(made).whats) {
            if (what instanceof Integer w && (w == of || isMadeOf(w, of))) {
                return true;
            }
        }
        return false;
    }

    int uses(int i) {
        if (num(i) == null) {
            return -1;
        }
        int bits = 0;
        for (int j = 0; j < size(); j++) {
            bits += isMadeOf(j, i) ? 1 << j : 0;
        }
        return bits;
    }

    private int deep(Object what) {
        if (!(what instanceof Integer i) || num(i).op.isEmpty()) {
            return 0;
        }
        return 1 + Math.max(deep(num(i).whats[0]), deep(num(i).whats[1]));
    }

    int depth(int i) {
        return num(i) == null ? -1 : deep(i);
    }

    int chosen(int i) {
        return num(i) == null || hand == null ? -1 : hand[i];
    }

    int choose(int i, int format) {
        if (hand == null || !isFree(i) || format < 0 || format >= told.formats.size()) {
            refused[2]++;
            return -1;
        }
        int had = hand[i];
        hand = changed(hand, num(i).tag, format);
        return had;
    }

    int cost() {
        return hand == null ? -1 : costIn(hand);
    }

    int casts() {
        return hand == null ? -1 : castsIn(hand);
    }

    int fails() {
        return hand == null ? -1 : judge(hand).fails();
    }

    int why() {
        return hand == null ? -1 : judge(hand).why();
    }

    long error(int i) {
        if (hand == null || num(i) == null) {
            return NOTHING;
        }
        List<BigInteger> errors = judge(hand).errors();
        return i < errors.size() ? errors.get(i).longValueExact() : NOTHING;
    }

    long slack(int i) {
        return num(i) == null || num(i).may == null || !handPasses() ? NOTHING : num(i).may - error(i);
    }

    int widest(int i) {
        if (num(i) == null || !num(i).op.isEmpty() || !handPasses()) {
            return -1;
        }
        int found = 0;
        for (int bit = 1 << 23; bit > 0; bit >>= 1) {
            int more = found + bit;
            if (more <= 10000000 && judge(hand, ranges(i, more)).passes()) {
                found = more;
            }
        }
        return found;
    }

    long blame(int answer, int i) {
        if (num(answer) == null || num(answer).may == null || !isFree(i) || !handPasses()) {
            return NOTHING;
        }
        Verdict then = judge(changed(hand, num(i).tag, least()));
        return then.passes() ? error(answer) - then.errors().get(answer).longValueExact() : NOTHING;
    }

    private void gather(int[] choice, List<Integer> free, int depth) {
        if (depth == free.size()) {
            if (judge(choice).passes()) {
                allPassing.add(choice);
            }
            return;
        }
        for (int f = 0; f < told.formats.size(); f++) {
            gather(changed(choice, free.get(depth), f), free, depth + 1);
        }
    }

    /** In the order of CHEAPEST; null without a TASK, with too many FREE GROUPS. */
    private List<int[]> all() {
        if (told == null || freeLeaders().size() > 5) {
            return null;
        }
        if (allPassing == null) {
            allPassing = new ArrayList<>();
            if (hand != null) {
                gather(allIn(0), freeLeaders(), 0);
            }
        }
        return allPassing;
    }

    private int[] best() {
        int[] best = null;
        if (all() != null) {
            for (int[] choice : all()) {
                best = best == null || costIn(choice) < costIn(best) ? choice : best;
            }
        }
        return best;
    }

    private int in(int[] choice, int i) {
        if (choice == null) {
            return -1;
        }
        return i == -1 ? costIn(choice) : num(i) == null ? -1 : choice[i];
    }

    int cheapest(int i) {
        return in(best(), i);
    }

    int passing() {
        return all() == null ? -1 : all().size();
    }

    private int tries;

    private int[] byHalves() {
        if (hand == null) {
            return null;
        }
        int[] now = allIn(least());
        tries = 1;
        if (!judge(now).passes()) {
            return null;
        }
        List<Integer> rest = new ArrayList<>(freeLeaders());
        for (int f = 0; f < told.formats.size(); f++) {
            if (f == least()) {
                continue;
            }
            ArrayDeque<List<Integer>> parts = new ArrayDeque<>();
            if (!rest.isEmpty()) {
                parts.add(new ArrayList<>(rest));
            }
            while (!parts.isEmpty()) {
                List<Integer> part = parts.poll();
                int[] then = now;
                for (int leader : part) {
                    then = changed(then, leader, f);
                }
                tries++;
                if (judge(then).passes() && costIn(then) < costIn(now)) {
                    now = then;
                    rest.removeAll(part);
                } else if (part.size() > 1) {
                    int half = part.size() / 2;
                    parts.add(part.subList(0, half));
                    parts.add(part.subList(half, part.size()));
                }
            }
        }
        return now;
    }

    int halves(int i) {
        int[] found = byHalves();
        return found != null && i == -2 ? tries : in(found, i);
    }

    private record Single(int leader, int format, int cost) { }

    private List<Single> singles() {
        List<Single> found = new ArrayList<>();
        for (int leader : freeLeaders()) {
            for (int f = 0; f < told.formats.size(); f++) {
                int[] then = changed(hand, leader, f);
                if (f != hand[leader] && judge(then).passes()) {
                    found.add(new Single(leader, f, costIn(then)));
                }
            }
        }
        return found;
    }

    private Single bestSingle() {
        Single best = null;
        for (Single s : singles()) {
            if (s.cost() < costIn(hand) && (best == null || s.cost() < best.cost())) {
                best = s;
            }
        }
        return best;
    }

    int single(int what) {
        if (hand == null) {
            return -1;
        }
        Single best = bestSingle();
        return switch (what) {
            case 0 -> singles().size();
            case 1 -> (int) singles().stream().filter(s -> s.cost() < costIn(hand)).count();
            case 2 -> best == null ? -1 : best.leader();
            case 3 -> best == null ? -1 : best.format();
            default -> -1;
        };
    }

    int take(int what) {
        int[] next = null;
        if (what == 0) {
            next = best();
        } else if (what == 1) {
            next = byHalves();
        } else if (what == 2 && hand != null && bestSingle() != null) {
            next = changed(hand, bestSingle().leader(), bestSingle().format());
        }
        if (next == null) {
            refused[2]++;
            return -1;
        }
        hand = next;
        return costIn(hand);
    }

    /** Couples of COST and ERROR, by COSTS, and how many CHOICES have each; those of the FRONT. */
    private List<long[]> frontOf(int answer) {
        TreeMap<Long, TreeMap<Long, Long>> couples = new TreeMap<>();
        for (int[] choice : all()) {
            long error = judge(choice).errors().get(answer).longValueExact();
            couples.computeIfAbsent((long) costIn(choice), c -> new TreeMap<>()).merge(error, 1L, Long::sum);
        }
        List<long[]> list = new ArrayList<>();
        couples.forEach((cost, errors) -> errors.forEach((error, many) -> list.add(new long[] {cost, error, many})));
        List<long[]> front = new ArrayList<>();
        for (long[] a : list) {
            if (list.stream().noneMatch(b -> b != a && b[0] <= a[0] && b[1] <= a[1])) {
                front.add(a);
            }
        }
        return front;
    }

    private boolean canSearch(int answer) {
        return num(answer) != null && num(answer).may != null && all() != null;
    }

    long front(int answer, int k, int what) {
        if (!canSearch(answer) || what < 0 || what > 2 || k == -1 && what != 0) {
            return NOTHING;
        }
        List<long[]> front = frontOf(answer);
        if (k == -1) {
            return front.size();
        }
        return k < 0 || k >= front.size() ? NOTHING : front.get(k)[what];
    }

    long least(int answer, int cost) {
        if (!canSearch(answer)) {
            return NOTHING;
        }
        return all().stream().filter(c -> costIn(c) <= cost)
            .mapToLong(c -> judge(c).errors().get(answer).longValueExact()).min().orElse(NOTHING);
    }

    byte[] certificateBytes() {
        Verdict verdict = judge(hand);
        List<BigInteger[]> ranges = ranges(-1, 0);
        ByteBuffer bytes = ByteBuffer.allocate(25 * size());
        for (int i = 0; i < size(); i++) {
            bytes.put((byte) hand[i]).putLong(ranges.get(i)[0].longValueExact())
                .putLong(ranges.get(i)[1].longValueExact()).putLong(verdict.errors().get(i).longValueExact());
        }
        return bytes.array();
    }

    int certificate(int i) {
        return !handPasses() || i < 0 || i >= 25 * size() ? -1 : certificateBytes()[i] & 255;
    }

    private static BigInteger held(long v) {
        return big(v).max(big(-1000000000000L)).min(big(1000000000000L));
    }

    private int breaksBy(int i, int[] choice, BigInteger[] range, BigInteger error,
            List<BigInteger[]> ranges, List<BigInteger> errors) {
        Num n = num(i);
        if (choice[i] >= told.formats.size()) {
            return 1;
        }
        for (int j = 0; j < size(); j++) {
            boolean same = num(j).tag == n.tag;
            if (same && j < i && choice[j] != choice[i] || same && num(j).fixed != null && num(j).fixed != choice[i]) {
                return 1;
            }
        }
        BigInteger[] due = n.op.isEmpty() ? new BigInteger[] {(BigInteger) n.whats[0], (BigInteger) n.whats[1]}
            : rangeOf(n, whatRange(n.whats[0], ranges), whatRange(n.whats[1], ranges));
        if (range[0].compareTo(due[0]) > 0) {
            return 2;
        }
        if (range[1].compareTo(due[1]) < 0) {
            return 3;
        }
        if (error.signum() < 0 || error.compareTo(errorOf(i, choice, errors, ranges)) < 0) {
            return 4;
        }
        if (amount(range).add(error).compareTo(big(told.formats.get(choice[i]).most())) > 0) {
            return 5;
        }
        return n.may != null && error.compareTo(big(n.may)) > 0 ? 6 : 0;
    }

    boolean check() {
        ByteBuffer bytes = ByteBuffer.wrap(tape.toByteArray());
        tape.reset();
        brokenAt = -1;
        brokenWhy = -1;
        if (told == null || bytes.capacity() != 25 * size()) {
            refused[3]++;
            return false;
        }
        int[] choice = new int[size()];
        List<BigInteger[]> ranges = new ArrayList<>();
        List<BigInteger> errors = new ArrayList<>();
        for (int i = 0; i < size(); i++) {
            choice[i] = bytes.get() & 255;
            BigInteger[] range = {held(bytes.getLong()), held(bytes.getLong())};
            BigInteger error = held(bytes.getLong());
            int why = breaksBy(i, choice, range, error, ranges, errors);
            if (why != 0) {
                brokenAt = i;
                brokenWhy = why;
                refused[3]++;
                return false;
            }
            ranges.add(range);
            errors.add(error);
        }
        brokenAt = -2;
        brokenWhy = 0;
        return true;
    }

    int broken(int what) {
        return what == 0 ? brokenAt : what == 1 ? brokenWhy : -1;
    }

    private static BigInteger whatOf(Object what, List<BigInteger> values) {
        return what instanceof Integer i ? values.get(i) : (BigInteger) what;
    }

    /** EXACT and KEPT of all NUMBERS; goes on with the seed. */
    private List<List<BigInteger>> draw() {
        List<BigInteger> exact = new ArrayList<>();
        List<BigInteger> kept = new ArrayList<>();
        BigInteger one = BigInteger.ONE;
        for (int i = 0; i < size(); i++) {
            Num n = num(i);
            BigInteger step = big(told.formats.get(hand[i]).step());
            if (n.op.isEmpty()) {
                BigInteger x = big(1103515245).multiply(big(seed)).add(big(12345)).mod(one.shiftLeft(31));
                seed = x.longValueExact();
                BigInteger m = ((BigInteger) n.whats[1]).subtract((BigInteger) n.whats[0]).add(one);
                BigInteger value = ((BigInteger) n.whats[0]).add(x.multiply(m).divide(one.shiftLeft(31)));
                exact.add(value);
                kept.add(rounded(value, one, step));
            } else {
                exact.add(go(n.op, whatOf(n.whats[0], exact), whatOf(n.whats[1], exact), one));
                BigInteger a = rounded(whatOf(n.whats[0], kept), one, step);
                BigInteger b = rounded(whatOf(n.whats[1], kept), one, step);
                kept.add(go(n.op, a, b, step));
            }
        }
        return List.of(exact, kept);
    }

    long trials(int n, int i) {
        if (n < 1 || n > 40 || num(i) == null || !handPasses()) {
            refused[4]++;
            return -1;
        }
        BigInteger apart = BigInteger.ZERO;
        for (int k = 0; k < n; k++) {
            List<List<BigInteger>> drawn = draw();
            apart = apart.max(drawn.get(0).get(i).subtract(drawn.get(1).get(i)).abs());
        }
        return apart.longValueExact();
    }

    long trial(int i, boolean isKept) {
        if (num(i) == null || !handPasses()) {
            return NOTHING;
        }
        long before = seed;
        List<List<BigInteger>> drawn = draw();
        seed = before;
        return drawn.get(isKept ? 1 : 0).get(i).longValueExact();
    }

    boolean seed(int x) {
        if (x < 0) {
            refused[4]++;
            return false;
        }
        seed = x;
        return true;
    }

    int status(int what) {
        return what < 0 || what > 4 ? -1 : refused[what];
    }
}
