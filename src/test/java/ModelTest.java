import java.util.ArrayList;
import java.util.Arrays;
import java.util.List;
import java.util.Random;
import java.util.regex.Matcher;
import java.util.regex.Pattern;

/** Runs of random calls on the class and on the model, whose answers are due. */
public final class ModelTest {
    private static final int RUNS = 1500;
    private static final int CALLS = 300;
    private static final String[] CALL_NAMES = {"has", "letter", "format", "number", "told", "range", "uses",
        "depth", "chosen", "choose", "cost", "casts", "fails", "why", "error", "slack", "widest", "blame",
        "cheapest", "passing", "halves", "single", "take", "front", "least", "certificate", "check", "broken",
        "trials", "trial", "seed", "status", "fault", "feed", "end", "task", "choose", "choose", "error"};

    private static final String[] TOKENS = {"format", "step", "most", "cost", "cast", "input", "let", "min", "max",
        "fixed", "group", "answer", "within", ";", "=", "-", "+", "*", "0", "999", "1000", "1000000", "1000001",
        "10000000", "10000001", "99999999", "123456789", "f", "ff", "nb", "naxyz", "abcdef", "abcdefg"};

    private final Due due = new Due("ModelTest");
    private final Random random;
    private int tasks;
    private int faults;
    private final int[] faultKinds = new int[5];
    private int passes;
    private int certificatesHeld;
    private int fronts;
    private int halvesChanged;
    private ShortEnough x;
    private Model m;

    private ModelTest(long seed) {
        random = new Random(seed);
    }

    /** Other runs than those of .ci/run: with a number as the argument. */
    public static void main(String[] args) {
        ModelTest test = new ModelTest(args.length > 0 ? Long.parseLong(args[0]) : 20261117);
        for (int run = 0; run < RUNS && test.due.isRight(); run++) {
            test.run(run);
        }
        System.out.println("ModelTest: tasks " + test.tasks + ", faults " + test.faults
            + ", by kinds " + Arrays.toString(test.faultKinds) + ", passes " + test.passes
            + ", certificates " + test.certificatesHeld + ", fronts " + test.fronts + ", halves " + test.halvesChanged);
        boolean rich = test.tasks > 500 && test.faults > 500 && test.passes > 1000 && test.certificatesHeld > 100
            && test.fronts > 100 && test.halvesChanged > 100
            && Arrays.stream(test.faultKinds).allMatch(many -> many > 50);
        test.due.is("the runs are rich", rich, true);
        test.due.end();
    }

    private void run(int run) {
        x = new ShortEnough();
        m = new Model();
        for (int call = 0; call < CALLS && due.isRight(); call++) {
            String at = "run " + run + ", call " + call + ": ";
            if (call % 100 == 0) {
                tellTask(at, false);
            } else if (random.nextInt(60) == 0) {
                tellTask(at, true);
            } else if (random.nextInt(25) == 0) {
                tellCertificate(at);
            } else {
                call(at, CALL_NAMES[random.nextInt(CALL_NAMES.length)]);
            }
        }
    }

    // ---- texts

    private int pick(int... of) {
        return of[random.nextInt(of.length)];
    }

    private String blank() {
        return random.nextInt(8) == 0 ? "\n  " : " ";
    }

    private String randomTask() {
        StringBuilder text = new StringBuilder();
        int formats = pick(1, 2, 2, 3, 3, 4);
        int scale = pick(1000, 1000, 20000, 1000000, 10000000);
        boolean loose = random.nextInt(4) > 0;
        boolean coarse = random.nextInt(8) == 0;
        for (int f = 0; f < formats; f++) {
            int step = coarse ? pick(1, 999, 4096, 100000, 333333, 500000, 999999, 1000000)
                : pick(1, 2, 3, 5, 7, 10, 10, 20, 50, 100, 100, 250, 1000);
            int most = loose ? pick(99999999, 99999999, 50000000) : scale * pick(1, 2, 3);
            text.append("format").append(blank()).append("f".repeat(f + 1)).append(" step ").append(step)
                .append(" most ").append(Math.min(most, 99999999)).append(" cost ").append(pick(0, 1, 2, 3, 5, 9, 999)).append(';');
        }
        int numbers = pick(1, 2, 3, 4, 5, 6, 8, 10, 14);
        int inputs = 1 + random.nextInt(Math.min(numbers, 4));
        for (int i = 0; i < numbers; i++) {
            text.append(i < inputs || random.nextInt(12) == 0 ? randomInput(i, scale) : randomLet(i, scale)).append(';');
        }
        if (random.nextInt(3) > 0) {
            text.append("cast ").append(pick(0, 1, 2, 5)).append(" ;");
        }
        int more = random.nextInt(4) + (numbers > 5 ? random.nextInt(numbers) : 0);
        for (int k = 0; k < more && numbers > 1; k++) {
            int a = random.nextInt(numbers);
            int b = (a + 1 + random.nextInt(numbers - 1)) % numbers;
            text.append("group ").append(name(a)).append(blank()).append(name(b)).append(';');
        }
        for (int k = random.nextInt(3); k > 0; k--) {
            text.append("fixed ").append(name(random.nextInt(numbers))).append(' ')
                .append("f".repeat(1 + random.nextInt(formats))).append(';');
        }
        for (int k = random.nextInt(4); k > 0; k--) {
            text.append("answer ").append(name(random.nextInt(numbers))).append(" within ")
                .append(pick(0, 5, 20, 60, 100, 300, 1000, 10000, 999999, 1000000)).append(';').append(blank());
        }
        return text.toString();
    }

    private static String name(int i) {
        return "n" + (char) ('a' + i) + (i % 3 == 0 ? "xyz" : "");
    }

    private int within(int most) {
        return random.nextInt(2 * most + 1) - most;
    }

    private String randomInput(int i, int scale) {
        int a = within(scale);
        int b = Math.min(10000000, a + random.nextInt(scale));
        return "input " + name(i) + blank() + signed(a) + " " + signed(b);
    }

    private String signed(int v) {
        return v < 0 ? "-" + (random.nextInt(3) == 0 ? " " : "") + -v : "" + v;
    }

    private String randomLet(int i, int scale) {
        String[] ops = {" + ", " - ", " * ", " min ", " max ", "+", "-", "*"};
        return "let " + name(i) + "=" + randomWhat(i, scale) + ops[random.nextInt(ops.length)] + randomWhat(i, scale);
    }

    private String randomWhat(int i, int scale) {
        if (random.nextInt(5) == 0) {
            return signed(pick(0, 500, 1000, -1000, 2000, within(3000), within(Math.min(scale, 1000000))));
        }
        return name(random.nextInt(i));
    }

    /** A text with a byte less, more, or another one; or cut. */
    private String spoilt(String text) {
        String signs = " \n;=-+*0159abzf\t{A\u00e9";
        StringBuilder copy = new StringBuilder(text);
        for (int k = 1 + random.nextInt(2); k > 0 && copy.length() > 1; k--) {
            int at = random.nextInt(copy.length());
            char sign = signs.charAt(random.nextInt(signs.length()));
            switch (random.nextInt(6)) {
                case 0 -> copy.deleteCharAt(at);
                case 1 -> copy.insert(at, sign);
                case 2 -> copy.setCharAt(at, sign);
                case 3 -> copy.setLength(at);
                case 4 -> copy.insert(at, copy.substring(at, Math.min(copy.length(), at + 12)));
                default -> {
                    int other = random.nextInt(copy.length());
                    String word = text.substring(Math.min(other, text.length()), Math.min(text.length(), other + 5));
                    copy.insert(at, word);
                }
            }
        }
        return copy.length() > 1200 ? copy.substring(0, 1200) : copy.toString();
    }

    /** A text with a word, a number, a sign less, more, or another one; or a STATEMENT told many times. */
    private String respelt(String text) {
        List<String> tokens = new ArrayList<>();
        Matcher token = Pattern.compile("[a-z]+|[0-9]+|[^a-z0-9\\s]").matcher(text);
        while (token.find()) {
            tokens.add(token.group());
        }
        int at = random.nextInt(tokens.size());
        String other = random.nextBoolean() ? TOKENS[random.nextInt(TOKENS.length)]
            : tokens.get(random.nextInt(tokens.size()));
        switch (random.nextInt(5)) {
            case 0 -> tokens.remove(at);
            case 1 -> tokens.add(at, other);
            case 2, 3 -> tokens.set(at, other);
            default -> {
                int end = at + tokens.subList(at, tokens.size()).indexOf(";") + 1;
                List<String> statement = List.copyOf(tokens.subList(lastStart(tokens, at), end));
                for (int k = pick(1, 1, 10, 30, 40); k > 0; k--) {
                    tokens.addAll(end, statement);
                }
            }
        }
        String spelt = String.join(" ", tokens);
        return spelt.length() > 1200 ? spelt.substring(0, 1200) : spelt;
    }

    private static int lastStart(List<String> tokens, int at) {
        return tokens.subList(0, at).lastIndexOf(";") + 1;
    }

    private void tellTask(String at, boolean maySpoil) {
        String text = randomTask();
        while (text.length() > 1200) {
            text = randomTask();
        }
        boolean spoil = maySpoil && random.nextInt(4) > 0;
        String told = !spoil ? text : random.nextBoolean() ? spoilt(text) : respelt(text);
        put(Due.bytes(told));
        due.is(at + "task() of " + told, x.task(), m.task());
        due.is(at + "fault(0) of " + told, x.fault(0), m.fault(0));
        due.is(at + "fault(1) of " + told, x.fault(1), m.fault(1));
        tasks += m.fault(0) == 0 ? 1 : 0;
        faults += m.fault(0) != 0 ? 1 : 0;
        faultKinds[m.fault(0)]++;
        if (m.fault(0) == 0 && random.nextBoolean()) {
            int what = pick(0, 1);
            due.is(at + "take(" + what + ")", x.take(what), m.take(what));
        }
    }

    private void put(byte[] bytes) {
        due.is("end(0)", x.end(0), m.end(0));
        byte[] full = Arrays.copyOf(bytes, (bytes.length + 19) / 20 * 20);
        for (int k = 0; k < full.length; k += 20) {
            int[] five = new int[5];
            for (int j = 0; j < 5; j++) {
                five[j] = Due.four(full, k + 4 * j);
            }
            due.is("feed", x.feed(five[0], five[1], five[2], five[3], five[4]), m.feed(five));
        }
        due.is("end", x.end(bytes.length), m.end(bytes.length));
    }

    private void tellCertificate(String at) {
        if (m.fails() != -2) {
            return;
        }
        passes++;
        byte[] bytes = m.certificateBytes();
        for (int k = random.nextInt(4); k > 0; k--) {
            int i = random.nextInt(bytes.length / 25) * 25;
            int which = 8 + 8 * random.nextInt(3);
            switch (random.nextInt(5)) {
                case 0 -> bytes[i] = (byte) pick(0, 1, 2, 3, 255);
                case 1 -> bytes[i + which] += (byte) pick(-1, 1, 1, 5);
                case 2 -> bytes[i + which - 1] += (byte) pick(-1, 1);
                case 3 -> bytes[i + 24] += (byte) pick(1, 2, 10);
                default -> bytes[random.nextInt(bytes.length)] = (byte) random.nextInt(256);
            }
        }
        int length = random.nextInt(12) == 0 ? bytes.length + pick(-1, 1, -25) : bytes.length;
        put(Arrays.copyOf(bytes, length));
        due.is(at + "check()", x.check(), m.check());
        due.is(at + "broken(0)", x.broken(0), m.broken(0));
        due.is(at + "broken(1)", x.broken(1), m.broken(1));
        certificatesHeld += m.broken(0) == -2 ? 1 : 0;
    }

    // ---- calls

    private int some(int from, int to) {
        return random.nextInt(40) == 0 ? pick(Integer.MIN_VALUE, Integer.MAX_VALUE, 1 << 20)
            : from + random.nextInt(to - from + 1);
    }

    /** Mostly an ANSWER, if there is one. */
    private int answerNear(int i) {
        for (int k = 0; k < m.has(0) && random.nextInt(9) > 0; k++) {
            int answer = Math.floorMod(i + k, m.has(0));
            if (m.number(answer, 5) >= 0) {
                return answer;
            }
        }
        return i;
    }

    private void call(String at, String name) {
        int i = some(-1, Math.max(0, m.has(0)));
        int j = some(-1, Math.max(0, m.has(0)));
        boolean b = random.nextBoolean();
        String told = at + name + " with " + i + ", " + j + ", " + b;
        switch (name) {
            case "has" -> { int w = some(-1, 8); due.is(told + w, x.has(w), m.has(w)); }
            case "letter" -> { int w = some(-1, 6); due.is(told + w, x.letter(i, b, w), m.letter(i, b, w)); }
            case "format" -> { int w = some(-1, 3); due.is(told + w, x.format(w, j), m.format(w, j)); }
            case "number" -> { int w = some(-1, 6); due.is(told + w, x.number(i, w), m.number(i, w)); }
            case "told" -> { int w = some(-1, 2); due.is(told + w, x.told(i, w), m.told(i, w)); }
            case "range" -> due.is(told, x.range(i, b), m.range(i, b));
            case "uses" -> due.is(told, x.uses(i), m.uses(i));
            case "depth" -> due.is(told, x.depth(i), m.depth(i));
            case "chosen" -> due.is(told, x.chosen(i), m.chosen(i));
            case "choose" -> { int w = some(-1, m.has(1)); due.is(told + w, x.choose(i, w), m.choose(i, w)); }
            case "cost" -> due.is(told, x.cost(), m.cost());
            case "casts" -> due.is(told, x.casts(), m.casts());
            case "fails" -> due.is(told, x.fails(), m.fails());
            case "why" -> due.is(told, x.why(), m.why());
            case "error" -> due.is(told, x.error(i), m.error(i));
            case "slack" -> { int a = answerNear(i); due.is(told, x.slack(a), m.slack(a)); }
            case "widest" -> due.is(told, x.widest(i), m.widest(i));
            case "blame" -> { int a = answerNear(i); due.is(told, x.blame(a, j), m.blame(a, j)); }
            default -> search(told, name, i, j, b);
        }
    }

    private void search(String told, String name, int i, int j, boolean b) {
        int w = some(-1, 3);
        switch (name) {
            case "cheapest" -> due.is(told, x.cheapest(i), m.cheapest(i));
            case "passing" -> due.is(told, x.passing(), m.passing());
            case "halves" -> {
                due.is(told, x.halves(i), m.halves(i));
                due.is(told, x.halves(-2), m.halves(-2));
                halvesChanged += m.halves(-2) > 4 ? 1 : 0;
            }
            case "single" -> due.is(told + w, x.single(w), m.single(w));
            case "take" -> due.is(told + w, x.take(w), m.take(w));
            case "front" -> {
                int answer = answerNear(i);
                due.is(told, x.front(answer, -1, 0), m.front(answer, -1, 0));
                int k = random.nextInt(3) - 1;
                due.is(told + k + w, x.front(answer, k, w), m.front(answer, k, w));
                fronts += m.front(answer, -1, 0) > 1 ? 1 : 0;
            }
            case "least" -> {
                int c = pick(-1, 0, 5, 10, 20, 30, 60, 2000, Integer.MAX_VALUE);
                int answer = answerNear(i);
                due.is(told + c, x.least(answer, c), m.least(answer, c));
            }
            case "certificate" -> { int k = some(-1, 25 * m.has(0)); due.is(told + k, x.certificate(k), m.certificate(k)); }
            case "check" -> due.is(told, x.check(), m.check());
            case "broken" -> due.is(told + w, x.broken(w), m.broken(w));
            case "trials" -> { int n = some(-1, 42); due.is(told + n, x.trials(n, i), m.trials(n, i)); }
            case "trial" -> due.is(told, x.trial(i, b), m.trial(i, b));
            case "seed" -> { int s = random.nextInt() & pick(-1, Integer.MAX_VALUE); due.is(told + s, x.seed(s), m.seed(s)); }
            case "status" -> { int s = some(-1, 5); due.is(told + s, x.status(s), m.status(s)); }
            case "fault" -> due.is(told + w, x.fault(w), m.fault(w));
            case "feed" -> due.is(told, x.feed(i, j, i, j, 5), m.feed(i, j, i, j, 5));
            case "end" -> { int n = some(-1, 25); due.is(told + n, x.end(n), m.end(n)); }
            case "task" -> due.is(told, x.task(), m.task());
            default -> due.is("no such call: " + name, 1, 0);
        }
    }
}
