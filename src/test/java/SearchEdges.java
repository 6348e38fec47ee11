/** Terms III: the CHOICE at first, CHEAPEST, BY HALVES, SINGLE changes, TRIALS. */
final class SearchEdges {
    private static final int NONE = ShortEnough.NONE;
    private static final int TRIES = -2;
    private static final String LETTERS = "abcdefghijklmn";

    private final EdgesTest.Says due;

    SearchEdges(EdgesTest.Says due) {
        this.due = due;
    }

    void run() {
        atFirst();
        cheapest();
        freeGroups();
        halvesStart();
        halvesParts();
        halvesOrder();
        singles();
        trials();
    }

    /** FORMATS p, q, .. from couples of a step and a cost. */
    private static String formats(int... stepsAndCosts) {
        StringBuilder text = new StringBuilder();
        for (int k = 0; k + 1 < stepsAndCosts.length; k += 2) {
            text.append("format ").append((char) ('p' + k / 2)).append(" step ").append(stepsAndCosts[k])
                .append(" most 99999999 cost ").append(stepsAndCosts[k + 1]).append(';');
        }
        return text.toString();
    }

    /** Inputs a, b, ..; those whose bit is set are ANSWERS without any ERROR. */
    private static String inputs(int many, int exact) {
        StringBuilder text = new StringBuilder();
        for (int i = 0; i < many; i++) {
            char name = LETTERS.charAt(i);
            text.append("input ").append(name).append(" 0 9;");
            text.append((exact >> i & 1) == 1 ? "answer " + name + " within 0;" : "");
        }
        return text.toString();
    }

    private void halves(String text, int cost, int tries, int... formats) {
        ShortEnough x = Due.with(text);
        due.is("halves(NONE) of " + text, x.halves(NONE), cost);
        due.is("halves(-2) of " + text, x.halves(TRIES), tries);
        for (int i = 0; i < formats.length; i++) {
            due.is("halves(" + i + ") of " + text, x.halves(i), formats[i]);
        }
    }

    private void atFirst() {
        due.says("The CHOICE at hand is at first the one with FORMAT 0 for all GROUPS without fixed ones");
        ShortEnough x = Due.with(formats(9, 1, 1, 9) + inputs(3, 0));
        for (int i = 0; i < 3; i++) {
            due.is("chosen(" + i + ")", x.chosen(i), 0);
        }
        due.says("those with them as they are fixed (NONE, if that can't be)");
        ShortEnough y = Due.with(formats(9, 1, 1, 9, 2, 9) + inputs(5, 0) + "group a d;fixed d r;fixed c q;");
        int[] want = {2, 0, 1, 2, 0};
        for (int i = 0; i < want.length; i++) {
            due.is("chosen(" + i + ")", y.chosen(i), want[i]);
        }
        ShortEnough z = Due.with(formats(9, 1, 1, 9) + inputs(3, 0) + "group a b;fixed a q;fixed b p;");
        for (int i = 0; i < 3; i++) {
            due.is("chosen(" + i + ")", z.chosen(i), NONE);
        }
    }

    private void cheapest(String text, int cost, int... formats) {
        ShortEnough x = Due.with(text);
        due.is("cheapest(NONE) of " + text, x.cheapest(NONE), cost);
        for (int i = 0; i < formats.length; i++) {
            due.is("cheapest(" + i + ") of " + text, x.cheapest(i), formats[i]);
        }
    }

    private void cheapest() {
        due.says("CHEAPEST: of all CHOICES that PASS the one of least COST");
        cheapest(formats(10, 1, 1, 5, 4, 3) + inputs(1, 0), 1, 0);
        cheapest(formats(10, 1, 1, 5, 4, 3) + "input a 0 9;answer a within 4;", 3, 2);
        cheapest(formats(10, 1, 1, 5, 4, 3) + inputs(1, 1), 5, 1);
        cheapest(formats(10, 1, 1, 5, 4, 3) + inputs(2, 1), 6, 1, 0);
        cheapest(formats(1, 5, 1, 0) + inputs(2, 0) + "fixed a p;", 5, 0, 1);
        String casts = formats(1, 5, 1, 4) + "input a 0 9;let b = a + a;fixed a p;cast ";
        cheapest(casts + "1;", 10, 0, 0);
        cheapest(casts + "0;", 9, 0, 1);
        ShortEnough x = Due.with(HistoryEdges.fourteen());
        due.is("has(4)", x.has(4), 14);
        due.is("has(5)", x.has(5), 5);
        due.is("single(0), c in z alone, y FAILS", x.single(0), 1);
        due.is("cheapest(NONE), c and eight others in z", x.cheapest(NONE), 9 * 3 + 5);
        for (int i = 0; i < 14; i++) {
            due.is("cheapest(" + i + ") is as fixed", x.number(i, 4) < 0 || x.number(i, 4) == x.cheapest(i), true);
        }
        due.is("cheapest(2)", x.cheapest(2), 1);
        due.says("of like ones the first by GROUPS (by their least NUMBER), FORMATS by numbers");
        cheapest(formats(1, 5, 1, 3, 1, 3) + inputs(2, 0), 6, 1, 1);
        String either = formats(10, 0, 1, 0) + "cast 0;" + inputs(3, 0) + "let s = b + c;fixed s q;answer s within 9;";
        cheapest(either, 0, 0, 0, 1, 1);
        cheapest(either + "group c a;", 0, 0, 1, 0, 1);
        due.is("passing()", Due.with(either + "group c a;").passing(), 3);
    }

    private void freeGroups() {
        due.says("FREE GROUPS are those without fixed ones; above 5 of them there is none such (NONE)");
        String[] few = {formats(1, 2) + inputs(5, 0), formats(1, 2) + inputs(6, 0) + "fixed c p;",
            formats(1, 2) + inputs(6, 0) + "group a f;",
            formats(1, 2) + inputs(14, 0) + "group a b;group b c;group c d;group d e;group e f;group f g;group g h;"
                + "group h i;group i j;fixed j p;",
            formats(1, 2) + inputs(14, 0) + "group a b;group b c;group c d;group d e;group e f;group f g;group g h;"
                + "group h i;group i j;"};
        int[] free = {5, 5, 5, 4, 5};
        for (int k = 0; k < few.length; k++) {
            ShortEnough x = Due.with(few[k]);
            due.is("has(5)", x.has(5), free[k]);
            due.is("cheapest(NONE)", x.cheapest(NONE), 2 * x.has(0));
            due.is("cheapest(0)", x.cheapest(0), 0);
            due.is("passing()", x.passing(), 1);
        }
        String[] many = {formats(1, 2) + inputs(6, 1), formats(1, 2) + inputs(7, 1) + "fixed c p;",
            formats(1, 2) + inputs(14, 1) + "group a b;"};
        for (String text : many) {
            ShortEnough x = Due.with(text);
            due.is("has(5) > 5", x.has(5) > 5, true);
            due.is("cheapest(NONE)", x.cheapest(NONE), NONE);
            due.is("cheapest(0)", x.cheapest(0), NONE);
            due.is("passing()", x.passing(), NONE);
            due.is("front(0, NONE, 0)", x.front(0, NONE, 0), ShortEnough.NOTHING);
            due.is("least(0, 99999)", x.least(0, 99999), ShortEnough.NOTHING);
            due.is("take(0)", x.take(0), NONE);
            due.is("status(2)", x.status(2), 1);
            due.is("halves(NONE) has no such bound", x.halves(NONE), 2 * x.has(0));
            due.is("single(0) has no such bound", x.single(0), 0);
        }
    }

    private void halvesStart() {
        due.says("BY HALVES: from the CHOICE in which all FREE GROUPS have the FORMAT of the least step (of like ones the first), if it PASSES");
        // With p, with r: neither costs less than q.
        halves(formats(10, 9, 2, 3, 2, 3) + inputs(1, 0), 3, 3, 1);
        halves(formats(2, 3, 2, 3) + inputs(2, 0), 6, 2 + 2, 0, 0);
        halves(formats(1, 7) + inputs(3, 0), 21, 1, 0, 0, 0);
        halves(formats(10, 1, 1, 5) + inputs(3, 7) + "fixed b q;", 15, 1 + 3, 1, 1, 1);
        String like = "format p step 5 most 99 cost 0;format q step 2 most 8 cost 1;format r step 2 most 99 cost 1;input a 0 9;";
        due.is("q, the first of like steps, FAILS", Due.with(like).halves(NONE), NONE);
        due.is("q, the first of like steps, FAILS", Due.with(like).halves(TRIES), NONE);
        due.is("q, the first of like steps, FAILS", Due.with(like).halves(0), NONE);
        due.is("q PASSES", Due.with(like.replace("most 8", "most 99").replace("r step 2 most 99", "r step 2 most 8"))
            .halves(NONE), 0);
        due.is("a fixed one FAILS", Due.with(formats(10, 1, 1, 5) + inputs(2, 1) + "fixed a p;").halves(NONE), NONE);
        due.is("take(1)", Due.with(like).take(1), NONE);
    }

    private void halvesParts() {
        due.says("with each other FORMAT, by numbers");
        halves(formats(10, 5, 1, 9, 20, 1) + inputs(1, 0), 5, 2, 0);
        halves(formats(20, 1, 1, 9, 10, 5) + inputs(1, 0), 1, 2, 0);
        halves(formats(1, 9, 10, 5, 20, 1) + inputs(2, 0), 10, 2, 1, 1);
        due.says("PARTS is at first one row of all FREE GROUPS that have not changed so far, in order (no PART, if there are none)");
        // With p: a b c, a (stays), b c, b, c; with r: b c, b (stays), c.
        halves(formats(100, 1, 1, 9, 40, 4) + "input a 0 9;input b 0 9;input c 0 9;"
            + "answer a within 50;answer b within 20;answer c within 0;", 14, 9, 0, 2, 1);
        // With p all stay, with r, s there is no PART.
        halves(formats(100, 1, 1, 9, 40, 0, 50, 0) + inputs(4, 0), 4, 2, 0, 0, 0, 0);
        due.says("if the CHOICE with all of its GROUPS in that FORMAT PASSES and costs less than so far, it stays so");
        halves(formats(10, 9, 1, 9) + inputs(1, 0), 9, 2, 1);
        halves(formats(10, 8, 1, 9) + inputs(1, 0), 8, 2, 0);
        halves(formats(10, 8, 1, 9) + inputs(1, 1), 9, 2, 1);
        // a stays in q by its ERROR; b in p costs 3 and 1 and the CAST, 6 so far.
        String cast = formats(10, 1, 1, 3) + "input a 0 9;let b = a + 0;answer a within 0;cast ";
        halves(cast + "1;", 5, 4, 1, 0);
        halves(cast + "2;", 6, 4, 1, 1);
        halves(cast + "3;", 6, 4, 1, 1);
        // y stays (13 of 15); x in p would cost 14: less than at first, but not than so far.
        halves(formats(10, 1, 1, 3) + "cast 1;input y 0 9;input z 0 9;input x 0 9;let u = x + x;let v = x + 0;"
            + "fixed u q;fixed v q;answer z within 0;", 13, 1 + 1 + 2 + 2, 0, 1, 1, 1, 1);
        // Of c, a b: a or b in p alone would not cost less, both do.
        halves(formats(10, 1, 1, 3) + "cast 2;input c 0 9;input a 0 9;let b = a + 0;answer c within 0;",
            5, 1 + 1 + 2, 1, 0, 0);
    }

    private void halvesOrder() {
        due.says("else, if it has two GROUPS or more, its first half (the smaller one) and its second half come behind all PARTS");
        halves(formats(10, 1, 1, 5) + inputs(2, 1), 6, 1 + 1 + 2, 1, 0);
        halves(formats(10, 1, 1, 5) + inputs(3, 1), 7, 1 + 1 + 2, 1, 0, 0);
        halves(formats(10, 1, 1, 5) + inputs(3, 4), 7, 1 + 1 + 2 + 2, 0, 0, 1);
        halves(formats(10, 1, 1, 5) + inputs(5, 2), 9, 1 + 1 + 2 + 2, 0, 1, 0, 0, 0);
        halves(formats(10, 1, 1, 5) + inputs(5, 16), 9, 1 + 1 + 2 + 2 + 2, 0, 0, 0, 0, 1);
        halves(formats(10, 1, 1, 5) + inputs(14, (1 << 14) - 1), 70, 1 + 27, 1, 1, 1, 1, 1, 1, 1, 1, 1, 1, 1, 1, 1, 1);
        // ERROR of s: a, b count 10 each, c, d 5 each; c d comes ahead of a, b and takes all of it.
        halves(formats(10, 1, 1, 5) + "cast 0;" + inputs(4, 0) + "let i = a + a;let j = b + b;let k = c + d;let l = i + j;"
            + "let s = l + k;fixed i q;fixed j q;fixed k q;fixed l q;fixed s q;answer s within 10;",
            37, 1 + 1 + 2 + 2, 1, 1, 0, 0);
        // The first half comes first: a takes all of it.
        halves(formats(10, 1, 1, 5) + "cast 0;" + inputs(2, 0) + "let s = a + b;fixed s q;answer s within 5;",
            11, 1 + 1 + 2, 0, 1, 1);
        due.says("TRIES: how many CHOICES were asked so");
        halves(formats(10, 1, 1, 5) + inputs(2, 0) + "fixed a p;fixed b p;", 2, 1, 0, 0);
        halves(formats(10, 1, 1, 5) + inputs(1, 0), 1, 2, 0);
        halves(formats(10, 9, 1, 5, 10, 9, 10, 9) + inputs(1, 0), 5, 4, 1);
    }

    private void single(ShortEnough x, int... want) {
        for (int what = 0; what < 4; what++) {
            due.is("single(" + what + ")", x.single(what), want[what]);
        }
    }

    private void singles() {
        due.says("A SINGLE change: one FREE GROUP of the CHOICE at hand has another FORMAT");
        single(Due.with(formats(1, 5, 1, 5, 1, 5) + inputs(3, 0) + "fixed b q;"), 4, 0, NONE, NONE);
        single(Due.with(formats(1, 5) + inputs(3, 0)), 0, 0, NONE, NONE);
        single(Due.with(formats(1, 5, 1, 4) + inputs(2, 0) + "fixed a p;fixed b p;"), 0, 0, NONE, NONE);
        single(Due.with(formats(1, 5, 1, 4) + inputs(4, 0) + "fixed a p;group c d;"), 2, 2, 2, 1);
        single(Due.with(formats(1, 5, 1, 4) + "cast 0;" + inputs(4, 0) + "group d b;group b c;"), 2, 2, 1, 1);
        ShortEnough x = Due.with(formats(10, 4, 1, 5, 1, 5) + inputs(2, 1));
        // a FAILS in p: b alone does not help; a in q, in r, but each costs more.
        single(x, 2, 0, NONE, NONE);
        x.choose(0, 2);
        single(x, 3, 0, NONE, NONE);
        x.choose(1, 1);
        single(x, 3, 1, 1, 0);
    }

    private static long next(long x) {
        return (1103515245L * x + 12345L) % (1L << 31);
    }

    private void trials() {
        due.says("each draws the inputs, in order: a DRAW of (greatest less least and 1) more than the least");
        ShortEnough x = Due.with(formats(1, 0) + "let d = 5 + 5;input a -10000000 10000000;let b = a + a;input c -7 -3;input e 4 4;");
        for (int seed : new int[] {0, 1, 2, 12345, 1 << 30, Integer.MAX_VALUE - 1, Integer.MAX_VALUE}) {
            x.seed(seed);
            long first = next(seed);
            long second = next(first);
            long a = -10000000 + first * 20000001L / (1L << 31);
            due.is("trial(1, false) by " + seed, x.trial(1, false), a);
            due.is("trial(2, false) by " + seed, x.trial(2, false), 2 * a);
            due.is("trial(3, false) by " + seed, x.trial(3, false), -7 + second * 5 / (1L << 31));
            due.is("trial(4, false) by " + seed, x.trial(4, false), 4);
            due.is("has(7)", x.has(7), seed);
            due.is("trials(1, 0)", x.trials(1, 0), 0);
            due.is("has(7), three DRAWS", x.has(7), next(second));
        }
        due.says("A DRAW of m: x (the seed) becomes (1103515245 x + 12345) mod 2 to the 31");
        ShortEnough y = Due.with(formats(1, 0) + "input a 0 9;");
        int[][] seeds = {{0, 12345}, {1, 1103527590}, {1103527590, 377401575}, {377401575, 662824084},
            {Integer.MAX_VALUE, 1043980748}};
        for (int[] seed : seeds) {
            y.seed(seed[0]);
            y.trials(1, 0);
            due.is("has(7) behind " + seed[0], y.has(7), seed[1]);
        }
        ShortEnough lets = Due.with(formats(1, 0) + "let a = 2 + 3;");
        due.is("trials(40, 0) without an input", lets.trials(40, 0), 0);
        due.is("has(7) without an input", lets.has(7), 1);
        due.is("trial(0, true)", lets.trial(0, true), 5);
        due.says("(x times m) / 2 to the 31, cut");
        y.seed(1);
        due.is("1103527590 times 10: 5.13..", y.trial(0, false), 5);
        y.seed(0);
        due.is("12345 times 10: 0.00..", y.trial(0, false), 0);
        y.seed(1103527590);
        due.is("377401575 times 10: 1.75..", y.trial(0, false), 1);
    }
}
