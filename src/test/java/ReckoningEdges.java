import java.util.Set;
import java.util.TreeSet;

/** Terms II: EXACT, RANGES, CHOICES, KEPT, ERRORS, what PASSES and what it costs. */
final class ReckoningEdges {
    private static final long NOTHING = ShortEnough.NOTHING;
    private static final String N = "format f step 1 most 99999999 cost 0;";
    private final EdgesTest.Says due;

    ReckoningEdges(EdgesTest.Says due) {
        this.due = due;
    }

    void run() {
        exact();
        rounded();
        ranges();
        products();
        choices();
        kept();
        errors();
        productErrors();
        withinErrors();
        passes();
        fails();
        costs();
    }

    /** A FORMAT for each step, named p, q, r, s. */
    private static String steps(int... steps) {
        StringBuilder text = new StringBuilder();
        for (int k = 0; k < steps.length; k++) {
            text.append("format ").append((char) ('p' + k)).append(" step ").append(steps[k])
                .append(" most 99999999 cost ").append(k).append(';');
        }
        return text.toString();
    }

    private void exact(String let, long want) {
        ShortEnough x = Due.with(N + "input a 7 7;input b -3 -3;let c = " + let + ";");
        due.is("EXACT of " + let, x.trial(2, false), want);
        due.is("KEPT with step 1 of " + let, x.trial(2, true), want);
        due.is("RANGE of " + let, x.range(2, false), want);
        due.is("RANGE of " + let, x.range(2, true), want);
    }

    private void exact() {
        due.says("All numbers are whole thousandths (1000 is one)");
        exact("1000 * a", 7);
        exact("b * 2000", -6);
        due.says("an input is any whole thousandth of its box");
        ShortEnough x = Due.with(N + "input a -1 1;input b 8 8;");
        Set<Long> seen = new TreeSet<>();
        for (int seed = 0; seed < 40; seed++) {
            x.seed(seed);
            seen.add(x.trial(0, false));
            due.is("trial(1, false)", x.trial(1, false), 8);
        }
        due.is("drawn of -1 .. 1: " + seen, seen.equals(Set.of(-1L, 0L, 1L)), true);
        due.says("let goes by + and - as they are, by min, max, by * as the product by 1000, ROUNDED to 1");
        exact("a + b", 4);
        exact("a - b", 10);
        exact("b - a", -10);
        exact("a min b", -3);
        exact("a max b", 7);
        exact("a * b", 0);
        exact("1500 * 1", 2);
        exact("1499 * 1", 1);
        exact("1501 * 1", 2);
        exact("2500 * 1", 3);
        exact("500 * 1", 1);
        exact("499 * 1", 0);
        exact("-500 * 1", 0);
        exact("-501 * 1", -1);
        exact("-1500 * 1", -1);
        exact("1 * -1501", -2);
        exact("-2500 * 1", -2);
        exact("-1500 * -1", 2);
        exact("a * 1000000", 7000);
    }

    private void rounded(int step, int value, long want) {
        ShortEnough x = Due.with("format f step " + step + " most 99999999 cost 0;input a " + value + " " + value + ";");
        due.is(value + " ROUNDED to " + step, x.trial(0, true), want);
        due.is("EXACT", x.trial(0, false), value);
    }

    private void rounded() {
        due.says("ROUNDED to a step s: to the nearest multiple of s, of two the greater one");
        rounded(10, 4, 0);
        rounded(10, 5, 10);
        rounded(10, 15, 20);
        rounded(10, 10, 10);
        rounded(10, -4, 0);
        rounded(10, -5, 0);
        rounded(10, -6, -10);
        rounded(10, -15, -10);
        rounded(3, 1, 0);
        rounded(3, 2, 3);
        rounded(3, -1, 0);
        rounded(3, -2, -3);
        rounded(7, 10, 7);
        rounded(7, 11, 14);
        rounded(1, -9999999, -9999999);
        rounded(2, 7, 8);
        rounded(2, -7, -6);
        rounded(1000000, 499999, 0);
        rounded(1000000, 500000, 1000000);
        rounded(1000000, -500000, 0);
        rounded(1000000, -500001, -1000000);
        rounded(1000000, 9500000, 10000000);
    }

    private void range(String let, long least, long greatest) {
        ShortEnough x = Due.with(N + "input a -30 20;input b 7 50;let c = " + let + ";");
        due.is("least of " + let, x.range(2, false), least);
        due.is("greatest of " + let, x.range(2, true), greatest);
    }

    private void ranges() {
        due.says("Its RANGE: from least to greatest, by those of what it is made of");
        ShortEnough x = Due.with(N + "input a -30 20;let b = a - a;let c = b - b;");
        due.is("range(0, false)", x.range(0, false), -30);
        due.is("range(0, true)", x.range(0, true), 20);
        due.is("range(1, false), not 0", x.range(1, false), -50);
        due.is("range(1, true), not 0", x.range(1, true), 50);
        due.is("range(2, true)", x.range(2, true), 100);
        due.says("+ both least ones, both greatest ones");
        range("a + b", -23, 70);
        range("a + a", -60, 40);
        due.says("- the least one less the greatest one, the greatest one less the least one");
        range("a - b", -80, 13);
        range("b - a", -13, 80);
        due.says("min, max of both least ones, of both greatest ones");
        range("a min b", -30, 20);
        range("a max b", 7, 50);
        range("b min a", -30, 20);
        range("b max a", 7, 50);
        due.says("(A V has it as both ends.)");
        range("5 - a", -15, 35);
        range("a - 5", -35, 15);
        range("a + -5", -35, 15);
        range("a min 10", -30, 10);
        range("10 max a", 10, 20);
        range("-40 max a", -30, 20);
        range("a * -2000", -40, 60);
        range("3 - 5", -2, -2);
    }

    private void product(int[] a, int[] b, long least, long greatest) {
        ShortEnough x = Due.with(N + "input a " + a[0] + " " + a[1] + ";input b " + b[0] + " " + b[1]
            + ";let c = a * b;let d = b * a;");
        for (int i = 2; i < 4; i++) {
            due.is("least of a product", x.range(i, false), least);
            due.is("greatest of a product", x.range(i, true), greatest);
        }
    }

    private void products() {
        due.says("* the least, the greatest of the four products of ends, each as above");
        product(new int[] {2000, 3000}, new int[] {5000, 7000}, 10000, 21000);
        product(new int[] {-3000, -2000}, new int[] {5000, 7000}, -21000, -10000);
        product(new int[] {2000, 3000}, new int[] {-7000, -5000}, -21000, -10000);
        product(new int[] {-3000, -2000}, new int[] {-7000, -5000}, 10000, 21000);
        product(new int[] {-3000, 2000}, new int[] {-5000, 7000}, -21000, 15000);
        product(new int[] {-2000, 3000}, new int[] {-5000, 7000}, -15000, 21000);
        product(new int[] {-3000, 2000}, new int[] {-7000, 5000}, -15000, 21000);
        product(new int[] {-2000, 3000}, new int[] {-7000, 5000}, -21000, 15000);
        product(new int[] {-1500, 1500}, new int[] {1, 1}, -1, 2);
        product(new int[] {-501, 500}, new int[] {1, 1}, -1, 1);
        product(new int[] {0, 0}, new int[] {-7000, 5000}, 0, 0);
    }

    private void choices() {
        due.says("A CHOICE gives each NUMBER a FORMAT, all of a GROUP the same one, fixed ones theirs");
        ShortEnough x = Due.with(steps(1, 2, 3) + "input a 0 1;input b 0 1;input c 0 1;input d 0 1;"
            + "group d a;fixed b r;group c b;");
        due.is("choose(3, 2)", x.choose(3, 2), 0);
        int[] want = {2, 2, 2, 2};
        for (int i = 0; i < want.length; i++) {
            due.is("chosen(" + i + ")", x.chosen(i), want[i]);
        }
        due.is("choose(0, 1)", x.choose(0, 1), 2);
        due.is("chosen(3)", x.chosen(3), 1);
        due.is("chosen(2), fixed by its GROUP", x.chosen(2), 2);
        due.says("(a GROUP with fixed ones of unlike FORMATS, or a CHOICE that is told against that, is NONE)");
        String two = steps(1, 2) + "input a 0 1;input b 0 1;input c 0 1;fixed a p;fixed b q;";
        due.is("unlike, not of a GROUP", Due.with(two).chosen(1), 1);
        due.is("unlike, of a GROUP", Due.with(two + "group a b;").chosen(2), -1);
        due.is("unlike, of a GROUP by another", Due.with(two + "group a c;group c b;").cost(), -1);
        due.is("like ones", Due.with(two + "group a b;fixed b p;").chosen(1), 0);
        due.is("like ones, of three", Due.with(two + "group a b;group b c;fixed b p;fixed c p;").chosen(2), 0);
        due.is("three, the last one unlike", Due.with(two + "group a b;group b c;fixed b p;fixed c q;").chosen(2), -1);
        due.is("three, the middle one unlike", Due.with(two + "group a b;group b c;fixed c p;").fails(), -1);
        ShortEnough y = Due.with(two);
        due.is("choose(1, 0), told against it", y.choose(1, 0), -1);
        due.is("choose(1, 1), as it is", y.choose(1, 1), -1);
        due.is("chosen(1)", y.chosen(1), 1);
    }

    /** NUMBERS a (14), b (-16) are kept with step 1, c with another one. */
    private void kept(int step, String let, long exact, long kept) {
        ShortEnough x = Due.with(steps(1, step) + "input a 14 14;input b -16 -16;let c = " + let + ";fixed c q;");
        due.is("EXACT of " + let, x.trial(2, false), exact);
        due.is("KEPT with step " + step + " of " + let, x.trial(2, true), kept);
    }

    private void kept() {
        due.says("KEPT in it is an input ROUNDED to its FORMAT's step");
        ShortEnough x = Due.with(steps(10, 4) + "input a 14 14;");
        due.is("KEPT with step 10", x.trial(0, true), 10);
        x.choose(0, 1);
        due.is("KEPT with step 4", x.trial(0, true), 16);
        due.says("of let each WHAT is CAST (ROUNDED to the step of the let's FORMAT), then they go on as above");
        kept(10, "a + a", 28, 20);
        kept(10, "a + 14", 28, 20);
        kept(10, "14 + a", 28, 20);
        kept(10, "a - b", 30, 30);
        kept(10, "b - a", -30, -30);
        kept(10, "b - 5", -21, -30);
        kept(10, "5 - a", -9, 0);
        kept(10, "a min b", -16, -20);
        kept(10, "a max 16", 16, 20);
        kept(10, "16 max a", 16, 20);
        kept(4, "a + a", 28, 32);
        ShortEnough y = Due.with(steps(10, 1, 4) + "input a 6 6;let b = a + 0;let c = b + 0;fixed b q;fixed c r;");
        due.is("KEPT of a, 10, goes on as it is KEPT", y.trial(1, true), 10);
        due.is("KEPT of b, 10, with step 4", y.trial(2, true), 12);
        due.is("EXACT goes on as it is", y.trial(2, false), 6);
        ShortEnough second = Due.with(steps(10, 1, 4) + "input a 6 6;let b = 0 + a;let c = 3 - b;fixed b q;fixed c r;");
        due.is("KEPT of a, 10, goes on as it is KEPT", second.trial(1, true), 10);
        due.is("KEPT of 3, 4, less b, 12, with step 4", second.trial(2, true), -8);
        due.is("EXACT goes on as it is", second.trial(2, false), -3);
        due.says("but * is ROUNDED to that step");
        kept(10, "890 * 50", 45, 40);
        kept(10, "900 * 50", 45, 50);
        kept(10, "-900 * 50", -45, -40);
        kept(10, "-910 * 50", -45, -50);
        kept(10, "a * 1000", 14, 10);
        kept(10, "1000 * b", -16, -20);
        kept(10, "a * 10000", 140, 100);
        due.says("A V is not CAST if it is a multiple of the step; it costs nothing in any case");
        kept(10, "20 + 30", 50, 50);
        kept(10, "-20 - 30", -50, -50);
        kept(10, "20 + 35", 55, 60);
        kept(10, "-25 - 30", -55, -50);
        ShortEnough z = Due.with(steps(1, 10) + "cast 5;let a = 20 + 35;let b = 7 * 7;let c = a + 3;fixed a q;");
        due.is("casts(): a of c", z.casts(), 1);
        due.is("cost(): q and 5", z.cost(), 6);
    }

    /** ERROR of c, kept in q, of a and b, kept in p. */
    private void error(int p, int q, String let, long want) {
        ShortEnough x = Due.with(steps(p, q) + "input a 0 9;input b 0 9;let c = " + let + ";fixed c q;");
        due.is("ERROR with steps " + p + ", " + q + " of " + let, x.error(2), want);
    }

    private void errors() {
        due.says("of an input h (half the step, cut)");
        int[][] halves = {{1, 0}, {2, 1}, {3, 1}, {4, 2}, {5, 2}, {10, 5}, {999999, 499999}, {1000000, 500000}};
        for (int[] half : halves) {
            due.is("ERROR with step " + half[0], Due.with(steps(half[0]) + "input a 0 9;").error(0), half[1]);
        }
        due.says("of WHAT behind a CAST its ERROR and h, but its ERROR alone, if the step divides that of its own FORMAT");
        error(12, 12, "a + 0", 6);
        error(12, 4, "a + 0", 6);
        error(12, 1, "0 + a", 6);
        error(12, 5, "a + 0", 8);
        error(12, 24, "a + 0", 18);
        error(4, 12, "a + 0", 8);
        error(4, 12, "0 - a", 8);
        error(6, 4, "a + 0", 5);
        error(1, 10, "a + 0", 5);
        error(1, 10, "a + b", 10);
        error(1, 1, "a + b", 0);
        due.says("(of a V: 0 if the step divides it, else h)");
        error(12, 12, "24 + 0", 0);
        error(12, 12, "25 + 0", 6);
        error(12, 12, "0 + 6", 6);
        error(12, 12, "-24 + 0", 0);
        error(12, 12, "-25 + 0", 6);
        error(12, 12, "5 - 7", 12);
        error(12, 1, "5 - 7", 0);
        error(1, 12, "12 + -36", 0);
        error(1, 1000000, "1000000 + -1000000", 0);
        error(1, 1000000, "1000000 + 999999", 500000);
        due.says("of + - a and b together; of min, max the greater one");
        ShortEnough x = Due.with(steps(10, 4, 1) + "input a 0 9;input b 0 9;fixed b q;let c = a + b;let d = a - b;"
            + "let e = a min b;let g = b max a;let h = b - b;let i = b min b;let j = 0 max b;"
            + "fixed c r;fixed d r;fixed e r;fixed g r;fixed h r;fixed i r;fixed j r;");
        long[] want = {5, 2, 7, 7, 5, 5, 4, 2, 2};
        for (int i = 0; i < want.length; i++) {
            due.is("error(" + i + ")", x.error(i), want[i]);
        }
    }

    /** ERROR of a * b (and of b * a), both kept as it is, from boxes. */
    private void productError(int step, String a, String b, long want) {
        ShortEnough x = Due.with(steps(step) + "input a " + a + ";input b " + b + ";let c = a * b;let d = b * a;");
        due.is("ERROR with step " + step + " of (" + a + ") * (" + b + ")", x.error(2), want);
        due.is("ERROR with step " + step + " of (" + b + ") * (" + a + ")", x.error(3), want);
    }

    private void valueError(int step, int v, long want) {
        ShortEnough x = Due.with(steps(step) + "input a 0 0;let c = a * " + v + ";let d = " + v + " * a;");
        due.is("ERROR with step " + step + " of a * " + v, x.error(1), want);
        due.is("ERROR with step " + step + " of " + v + " * a", x.error(2), want);
    }

    private void productErrors() {
        due.says("of * with A, B (the greatest amounts of the RANGES of both WHATS): A b and B a and a b together");
        productError(10, "-200 100", "0 300", 3 + 5 + 1);
        productError(10, "-200 -100", "-300 300", 3 + 5 + 1);
        productError(10, "-100 200", "-300 -20", 3 + 5 + 1);
        productError(1000, "0 0", "0 0", 250 + 500 + 1);
        productError(1000, "0 4000", "0 0", 2000 + 250 + 500 + 1);
        productError(1000, "0 4000", "-6000 0", 2000 + 3000 + 250 + 500 + 1);
        ShortEnough x = Due.with(steps(100, 10) + "input a 0 2000;input b -3000 0;fixed b q;let c = a * b;let d = b * a;");
        // 2000 times 5 and 50, 3000 times 50, 55 times 50.
        due.is("ERROR of c, step 100", x.error(2), (2000 * 55 + 3000 * 50 + 55 * 50 + 999) / 1000 + 50 + 1);
        due.is("ERROR of d, step 100", x.error(3), (2000 * 55 + 3000 * 50 + 55 * 50 + 999) / 1000 + 50 + 1);
        due.says("by 1000, up to the next whole one, and h, and 1");
        productError(10, "0 200", "0 395", 3 + 5 + 1);
        productError(10, "0 200", "0 396", 4 + 5 + 1);
        productError(1, "-9000 9000", "0 9000", 1);
        valueError(1, 1000000, 1);
        valueError(2, 0, 0 + 1 + 1);
        valueError(2, 1000, 1 + 1 + 1);
        valueError(2, 1002, 2 + 1 + 1);
        valueError(2, 998, 1 + 1 + 1);
        valueError(3, 2001, 3 + 1 + 1);
        valueError(3, -2001, 3 + 1 + 1);
        valueError(3, 3000, 3 + 1 + 1);
        valueError(2, 2, 1 + 1 + 1);
        // 999 is no multiple of 10: 999 times 5, 0 times 5, 5 times 5.
        valueError(10, 999, 6 + 5 + 1);
        valueError(10, -999, 6 + 5 + 1);
    }

    private void withinErrors() {
        due.says("ERROR, how far KEPT is from EXACT at most");
        String lets = "input a -900 700;input b -50 2000;let c = a * b;let d = c - 77;let e = d max b;let g = e + a;"
            + "let h = g * -1234;let i = h min c;let j = i * i;let k = 5 - j;";
        int[][] choices = {{0, 0, 0, 0, 0, 0, 0, 0, 0, 0}, {1, 1, 1, 1, 1, 1, 1, 1, 1, 1}, {2, 2, 2, 2, 2, 2, 2, 2, 2, 2},
            {0, 1, 2, 0, 1, 2, 0, 1, 2, 0}, {2, 2, 1, 1, 0, 0, 1, 2, 0, 1}, {3, 3, 0, 1, 2, 3, 3, 0, 0, 2}};
        for (int[] choice : choices) {
            ShortEnough x = Due.with(steps(7, 30, 10, 1) + lets);
            for (int i = 0; i < choice.length; i++) {
                x.choose(i, choice[i]);
            }
            for (int i = 0; i < choice.length; i++) {
                long apart = x.trials(40, i);
                due.is("apart " + apart + ", ERROR " + x.error(i), apart >= 0 && apart <= x.error(i), true);
            }
        }
    }

    private void passes() {
        due.says("the greatest amount of its RANGE and its ERROR together are no more than most of its FORMAT");
        String step = "format f step 10 most 1005 cost 0;input a ";
        String[] just = {"-1000 1000;", "-1000 3;", "-3 1000;", "1000 1000;", "-1000 -1000;"};
        String[] above = {"-1001 1000;", "-1001 3;", "-3 1001;", "1001 1001;", "-1001 -1001;"};
        for (int k = 0; k < just.length; k++) {
            due.is("fails() of " + just[k], Due.with(step + just[k]).fails(), -2);
            due.is("fails() of " + above[k], Due.with(step + above[k]).fails(), 0);
            due.is("why() of " + above[k], Due.with(step + above[k]).why(), 1);
        }
        due.is("a let: 600 and 400 and 10", Due.with("format f step 10 most 1010 cost 0;"
            + "input a 0 600;input b 0 400;let c = a + b;").fails(), -2);
        due.is("a let: 600 and 401 and 10", Due.with("format f step 10 most 1010 cost 0;"
            + "input a 0 600;input b 0 401;let c = a + b;").fails(), 2);
        due.says("and the ERRORS of ANSWERS no more than they may be");
        due.is("5 within 5", Due.with(step + "0 9;answer a within 5;").fails(), -2);
        due.is("5 within 4", Due.with(step + "0 9;answer a within 4;").fails(), 0);
        due.is("5 within 4", Due.with(step + "0 9;answer a within 4;").why(), 2);
        due.is("5, no ANSWER", Due.with(step + "0 9;").fails(), -2);
        due.is("0 within 0", Due.with(N + "input a 0 9;answer a within 0;").fails(), -2);
    }

    private void fails() {
        due.says("It FAILS at the first NUMBER at which it does not (asked one by one, as they are told: WHY 1 most, else 2 ERROR)");
        String two = "format f step 10 most 1005 cost 0;input a 0 9;input b 0 1001;input c 0 1001;";
        due.is("b, c by most", Due.with(two).fails(), 1);
        due.is("a by ERROR, b by most", Due.with(two + "answer a within 4;").fails(), 0);
        due.is("a by ERROR, b by most", Due.with(two + "answer a within 4;").why(), 2);
        due.is("b by both", Due.with(two + "answer b within 4;").fails(), 1);
        due.is("b by both", Due.with(two + "answer b within 4;").why(), 1);
        due.is("b by most, c by both", Due.with(two + "answer c within 4;").fails(), 1);
        due.says("behind that nothing is reckoned");
        ShortEnough x = Due.with(two + "answer a within 4;");
        due.is("error(0), that one itself", x.error(0), 5);
        due.is("error(1)", x.error(1), NOTHING);
        due.is("error(2)", x.error(2), NOTHING);
        ShortEnough y = Due.with(two);
        due.is("error(1), that one itself", y.error(1), 5);
        due.is("error(2)", y.error(2), NOTHING);
    }

    private void costs() {
        due.says("COST: of each NUMBER its FORMAT's cost");
        ShortEnough x = Due.with("format p step 1 most 9999 cost 999;format q step 1 most 9999 cost 20;cast 0;"
            + "input a 0 1;input b 0 1;let c = a + b;");
        due.is("cost()", x.cost(), 3 * 999);
        x.choose(0, 1);
        due.is("cost()", x.cost(), 2 * 999 + 20);
        x.choose(2, 1);
        due.is("cost()", x.cost(), 999 + 40);
        due.says("what a CAST costs for each NAME of a let (each of both places) whose FORMAT is another one than the let's");
        String text = "format p step 1 most 9999 cost 0;format q step 1 most 9999 cost 0;cast 100;"
            + "input a 0 1;input b 0 1;let c = a + a;let d = a + b;let e = c max 7;let g = 7 * c;let h = 5 + 5;";
        int[] casts = {0, 2 + 1, 1, 2 + 1 + 1, 2, 1, 1, 0};
        for (int i = 0; i < 7; i++) {
            ShortEnough y = Due.with(text);
            y.choose(i, 1);
            due.is("casts(), NUMBER " + i + " in q", y.casts(), casts[i + 1]);
            due.is("cost(), NUMBER " + i + " in q", y.cost(), 100 * casts[i + 1]);
        }
        due.is("casts(), all in p", Due.with(text).casts(), 0);
        ShortEnough z = Due.with(text);
        for (int i = 0; i < 7; i++) {
            z.choose(i, 1);
        }
        due.is("casts(), all in q", z.casts(), 0);
    }
}
