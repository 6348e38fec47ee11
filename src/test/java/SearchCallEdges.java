import java.util.Arrays;

/** Promises 24 to 37: searches, certificates, trials, and how many calls were refused. */
final class SearchCallEdges {
    private static final int NONE = ShortEnough.NONE;
    private static final long NOTHING = ShortEnough.NOTHING;
    private static final int[] OTHERS = {4, 5, 99, Integer.MAX_VALUE, -1, -2, Integer.MIN_VALUE};
    private static final String SUM = CallEdges.SUM;
    private static final String CLASH = CallEdges.CLASH;
    private static final String NO_PASS = SUM + "answer p within 10;";
    private static final String SIX = "format p step 10 most 1000 cost 2;format q step 1 most 1000 cost 7;"
        + "input a 0 1;input b 0 1;input c 0 1;input d 0 1;input e 0 1;input f 0 1;answer a within 4;";

    private EdgesTest.Says due;

    private void promise(int number) {
        due = new EdgesTest.Says("Promise " + number);
    }

    void run() {
        cheapest();
        passing();
        halves();
        single();
        take();
        takeRefused();
        front();
        frontTies();
        least();
        certificate();
        check();
        broken();
        trials();
        trial();
        seed();
        status();
    }

    private void cheapest() {
        promise(24);
        due.says("CHEAPEST: its COST (number NONE), the FORMAT of a NUMBER");
        ShortEnough x = Due.with(SUM);
        due.is("cheapest(NONE)", x.cheapest(NONE), 8);
        int[] want = {0, 0, 0, 1};
        for (int i = 0; i < 4; i++) {
            due.is("cheapest(" + i + ")", x.cheapest(i), want[i]);
        }
        due.is("chosen(3) stays", x.chosen(3), 0);
        x.choose(0, 1);
        due.is("cheapest(NONE), whatever is at hand", x.cheapest(NONE), 8);
        due.says("NONE: none PASSES, there are too many FREE GROUPS, or there is none such");
        for (int i = -1; i < 4; i++) {
            due.is("cheapest(" + i + "), none PASSES", Due.with(NO_PASS).cheapest(i), NONE);
            due.is("cheapest(" + i + "), six FREE GROUPS", Due.with(SIX).cheapest(i), NONE);
            due.is("cheapest(" + i + "), no CHOICE", Due.with(CLASH).cheapest(i), NONE);
            due.is("new cheapest(" + i + ")", new ShortEnough().cheapest(i), NONE);
        }
        for (int i : CallEdges.NO_NUMBERS) {
            due.is("cheapest(" + i + ")", x.cheapest(i), i == NONE ? 8 : NONE);
        }
    }

    private void passing() {
        promise(25);
        due.says("How many CHOICES PASS");
        due.is("passing()", Due.with(SUM).passing(), 4);
        due.is("passing(), none", Due.with(NO_PASS).passing(), 0);
        due.is("passing(), one fixed", Due.with(SUM + "fixed a short;").passing(), 2);
        due.is("passing(), all fixed", Due.with(SUM + "fixed a short;fixed s short;fixed p long;").passing(), 1);
        due.is("passing(), all fixed, FAILS", Due.with(SUM + "fixed a short;fixed s short;fixed p short;").passing(), 0);
        due.is("passing(), there is no CHOICE", Due.with(CLASH).passing(), 0);
        String four = "format a step 1 most 99 cost 0;format b step 1 most 99 cost 0;format c step 1 most 99 cost 0;"
            + "format d step 1 most 99 cost 0;input e 0 9;input f 0 9;input g 0 9;input h 0 9;input i 0 9;";
        due.is("passing(), all", Due.with(four).passing(), 1024);
        due.is("passing(), of all", Due.with(four.replace("d step 1 most 99", "d step 1 most 8")).passing(), 243);
        due.says("NONE without a TASK, or when there are too many FREE GROUPS");
        due.is("new passing()", new ShortEnough().passing(), NONE);
        due.is("passing(), six", Due.with(SIX).passing(), NONE);
        due.is("passing(), five", Due.with(SIX + "fixed b q;").passing(), 16);
        due.is("passing(), seven, no CHOICE", Due.with(SIX + "input g 0 1;input h 0 1;input i 0 1;group h i;"
            + "fixed h p;fixed i q;").passing(), NONE);
    }

    private void halves() {
        promise(26);
        due.says("BY HALVES: its COST (number NONE), the FORMAT of a NUMBER; number -2: TRIES (the first one, too)");
        ShortEnough x = Due.with(SUM);
        due.is("halves(NONE)", x.halves(NONE), 12);
        // The first one; with short: all, a b, s p; s, p.
        due.is("halves(-2)", x.halves(-2), 6);
        for (int i = 0; i < 4; i++) {
            due.is("halves(" + i + ")", x.halves(i), 1);
            due.is("chosen(" + i + ") stays", x.chosen(i), 0);
        }
        due.is("halves(NONE) of six", Due.with(SIX).halves(NONE), 17);
        due.says("NONE: the first one does not PASS, there is no CHOICE, or there is none such");
        for (int i = -2; i < 4; i++) {
            due.is("halves(" + i + "), the first one FAILS", Due.with(NO_PASS).halves(i), NONE);
            due.is("halves(" + i + "), no CHOICE", Due.with(CLASH).halves(i), NONE);
            due.is("new halves(" + i + ")", new ShortEnough().halves(i), NONE);
        }
        for (int i : CallEdges.NO_NUMBERS) {
            due.is("halves(" + i + ")", x.halves(i), i == NONE ? 12 : i == -2 ? 6 : NONE);
        }
        // CHOICES that PASS do not help, if the first one does not.
        String coarse = "format p step 10 most 999 cost 1;format q step 1 most 9 cost 5;input a 0 100;";
        due.is("passing()", Due.with(coarse).passing(), 1);
        due.is("halves(NONE)", Due.with(coarse).halves(NONE), NONE);
    }

    private void single() {
        promise(27);
        due.says("SINGLE changes of the CHOICE at hand: how many PASS (what 0), how many of these cost less (1), the NUMBER (least of its GROUP) of the one of these that costs least, of like ones the first by GROUPS, FORMATS (2; NONE: none costs less), its FORMAT (3; NONE)");
        ShortEnough x = Due.with(SUM);
        long[][] want = {{1, 0, NONE, NONE}, {2, 0, NONE, NONE}, {2, 1, 2, 0}, {2, 0, NONE, NONE}, {2, 2, 0, 0}};
        int[][] choices = {{3, 0}, {3, 1}, {2, 1}, {0, 1}, {2, 0}};
        for (int k = 0; k < want.length; k++) {
            x.choose(choices[k][0], choices[k][1]);
            for (int what = 0; what < 4; what++) {
                due.is("single(" + what + ") behind " + k, x.single(what), want[k][what]);
            }
        }
        due.is("chosen(0) stays", x.chosen(0), 1);
        String like = "format f step 1 most 99 cost 9;format g step 1 most 99 cost 5;format h step 1 most 99 cost 5;cast 0;";
        ShortEnough y = Due.with(like + "input z 0 0;input a 0 0;input c 0 0;input d 0 0;fixed z f;group d c;fixed d f;");
        due.is("single(0)", y.single(0), 2);
        due.is("single(2)", y.single(2), 1);
        due.is("single(3), of g, h the first", y.single(3), 1);
        ShortEnough groups = Due.with(like + "input z 0 0;input a 0 0;input c 0 0;input d 0 0;group d a;group c z;");
        due.is("single(1)", groups.single(1), 4);
        due.is("single(2), of z c, a d the first", groups.single(2), 0);
        groups.choose(2, 2);
        due.is("single(1)", groups.single(1), 2);
        due.is("single(2), of a d", groups.single(2), 1);
        due.is("single(3)", groups.single(3), 1);
        groups.choose(1, 2);
        due.is("single(1), g costs as much as h", groups.single(1), 0);
        due.is("single(2)", groups.single(2), NONE);
        due.is("single(3)", groups.single(3), NONE);
        due.says("NONE when there is no CHOICE, or for others");
        for (int what : OTHERS) {
            due.is("single(" + what + ")", x.single(what), NONE);
        }
        for (int what = 0; what < 4; what++) {
            due.is("single(" + what + "), no CHOICE", Due.with(CLASH).single(what), NONE);
            due.is("new single(" + what + ")", new ShortEnough().single(what), NONE);
        }
    }

    private void take() {
        promise(28);
        due.says("The CHOICE at hand becomes CHEAPEST (what 0), BY HALVES (1), by its best SINGLE change one that costs less (2): its COST");
        ShortEnough x = Due.with(SUM);
        int[][] takes = {{0, 8, 0, 0, 0, 1}, {0, 8, 0, 0, 0, 1}, {1, 12, 1, 1, 1, 1}, {1, 12, 1, 1, 1, 1}};
        for (int[] take : takes) {
            due.is("take(" + take[0] + ")", x.take(take[0]), take[1]);
            due.is("cost()", x.cost(), take[1]);
            for (int i = 0; i < 4; i++) {
                due.is("chosen(" + i + ") behind take(" + take[0] + ")", x.chosen(i), take[2 + i]);
            }
        }
        x.choose(2, 0);
        due.is("take(2)", x.take(2), 8);
        due.is("chosen(0)", x.chosen(0), 0);
        due.is("chosen(1)", x.chosen(1), 0);
        due.is("chosen(2)", x.chosen(2), 0);
        due.is("status(2)", x.status(2), 0);
        ShortEnough six = Due.with(SIX);
        due.is("take(1) of six", six.take(1), 17);
        due.is("chosen(0)", six.chosen(0), 1);
        due.is("chosen(1)", six.chosen(1), 0);
        due.is("status(2)", six.status(2), 0);
        // From one that FAILS to one that PASSES and costs less.
        ShortEnough fails = Due.with("format p step 10 most 999 cost 5;format q step 1 most 999 cost 4;input a 0 1;answer a within 0;");
        due.is("fails()", fails.fails(), 0);
        due.is("take(2)", fails.take(2), 4);
        due.is("fails()", fails.fails(), -2);
    }

    private void takeRefused() {
        due.says("NONE, refused (2), when there is none such, or for others");
        ShortEnough x = CallEdges.passing();
        due.is("take(2), none costs less", x.take(2), NONE);
        due.is("status(2)", x.status(2), 1);
        int refused = 1;
        for (int what : new int[] {3, 4, -1, -2, Integer.MAX_VALUE, Integer.MIN_VALUE}) {
            refused++;
            due.is("take(" + what + ")", x.take(what), NONE);
            due.is("status(2)", x.status(2), refused);
        }
        due.is("cost() stays", x.cost(), 8);
        due.is("chosen(3) stays", x.chosen(3), 1);
        ShortEnough less = Due.with("format p step 1 most 9 cost 5;format q step 1 most 9 cost 4;input a 0 1;");
        for (int what : new int[] {3, -1}) {
            due.is("take(" + what + "), though a change costs less", less.take(what), NONE);
            due.is("chosen(0) stays", less.chosen(0), 0);
        }
        for (String text : new String[] {NO_PASS, CLASH, ""}) {
            ShortEnough y = text.isEmpty() ? new ShortEnough() : Due.with(text);
            for (int what = 0; what < 3; what++) {
                due.is("take(" + what + ")", y.take(what), NONE);
                due.is("status(2)", y.status(2), what + 1);
            }
        }
        ShortEnough six = Due.with(SIX);
        due.is("take(0) of six", six.take(0), NONE);
        due.is("chosen(0) stays", six.chosen(0), 0);
        due.is("status(2)", six.status(2), 1);
    }

    private void front(ShortEnough x, int answer, long[]... want) {
        due.is("front(" + answer + ", NONE, 0)", x.front(answer, NONE, 0), want.length);
        for (int k = 0; k < want.length; k++) {
            for (int what = 0; what < 3; what++) {
                due.is("front(" + answer + ", " + k + ", " + what + ")", x.front(answer, k, what), want[k][what]);
            }
        }
        due.is("front(" + answer + ", " + want.length + ", 0)", x.front(answer, want.length, 0), NOTHING);
    }

    private void front() {
        promise(29);
        due.says("FRONT of an ANSWER: couples of a COST and its ERROR in CHOICES that PASS, of which no other couple has both no more; by COSTS");
        ShortEnough x = Due.with(SUM + "answer s within 1000;answer a within 1000;");
        front(x, 3, new long[] {8, 56, 1}, new long[] {12, 11, 1});
        // ERRORS of s: 100 (8), 100 (12), 110 (16), 10 (12); of a: 50 (8), 50 (12), 5 (16), 5 (12).
        front(x, 2, new long[] {8, 100, 1}, new long[] {12, 10, 1});
        front(x, 0, new long[] {8, 50, 1}, new long[] {12, 5, 1});
        due.says("how many there are (k NONE, what 0), of the k-th (0 on) the COST (what 0), the ERROR (1), how many CHOICES have just these (2)");
        front(Due.with("format f step 10 most 9999 cost 1;format g step 1 most 9999 cost 2;cast 0;input a 0 1;input b 0 1;"
            + "input c 0 1;let s = a + b;let t = s + c;fixed s g;fixed t g;answer t within 99;"), 4,
            new long[] {7, 15, 1}, new long[] {8, 10, 3}, new long[] {9, 5, 3}, new long[] {10, 0, 1});
        due.says("NOTHING when it is no ANSWER, there are too many FREE GROUPS, or there is none such");
        due.is("front(1, NONE, 0), no ANSWER", x.front(1, NONE, 0), NOTHING);
        due.is("front(1, 0, 0), no ANSWER", x.front(1, 0, 0), NOTHING);
        for (int i : CallEdges.NO_NUMBERS) {
            due.is("front(" + i + ", NONE, 0)", x.front(i, NONE, 0), NOTHING);
            due.is("front(" + i + ", 0, 0)", x.front(i, 0, 0), NOTHING);
        }
        for (int k : new int[] {2, 3, 1024, -2, -3, Integer.MAX_VALUE, Integer.MIN_VALUE}) {
            due.is("front(3, " + k + ", 0)", x.front(3, k, 0), NOTHING);
        }
        for (int what : new int[] {1, 2, 3, -1, Integer.MAX_VALUE, Integer.MIN_VALUE}) {
            due.is("front(3, NONE, " + what + ")", x.front(3, NONE, what), NOTHING);
        }
        for (int what : new int[] {3, 4, -1, Integer.MAX_VALUE, Integer.MIN_VALUE}) {
            due.is("front(3, 0, " + what + ")", x.front(3, 0, what), NOTHING);
        }
        due.is("front(0, NONE, 0) of six", Due.with(SIX).front(0, NONE, 0), NOTHING);
        due.is("front(0, 0, 0) of six", Due.with(SIX).front(0, 0, 0), NOTHING);
        due.is("new front(0, NONE, 0)", new ShortEnough().front(0, NONE, 0), NOTHING);
        front(Due.with(NO_PASS), 3);
        front(Due.with(CLASH), 0);
    }

    /** a is the ANSWER; costs and ERRORS by its FORMAT alone, or by b's, too. */
    private void frontTies() {
        due.says("of which no other couple has both no more");
        String four = "format p step 20 most 9999 cost 3;format q step 10 most 9999 cost 3;format r step 4 most 9999 cost 5;"
            + "format s step 6 most 9999 cost 6;input a 0 1;answer a within 99;";
        // Of like COSTS the lesser ERROR alone (q); r is less in both than s.
        front(Due.with(four), 0, new long[] {3, 5, 1}, new long[] {5, 2, 1});
        front(Due.with(four.replace("p step 20", "p step 8")), 0, new long[] {3, 4, 1}, new long[] {5, 2, 1});
        // Of like ERRORS the lesser COST alone.
        front(Due.with(four.replace("p step 20", "p step 10").replace("q step 10 most 9999 cost 3", "q step 10 most 9999 cost 2")),
            0, new long[] {2, 5, 1}, new long[] {5, 2, 1});
        // Just alike: two CHOICES, one couple.
        front(Due.with(four.replace("p step 20", "p step 10")), 0, new long[] {3, 5, 2}, new long[] {5, 2, 1});
        front(Due.with("format p step 1 most 9999 cost 1;format q step 1 most 9999 cost 1;format r step 1 most 9999 cost 1;"
            + "format s step 1 most 9999 cost 1;input a 0 1;input b 0 1;input c 0 1;input d 0 1;input e 0 1;answer e within 0;"),
            4, new long[] {5, 0, 1024});
        // The greatest ERROR that an ANSWER may have; one more does not PASS.
        String million = "format p step 1000000 most 99999999 cost 1;input a 0 0;let b = a + a;answer b within 1000000;";
        front(Due.with(million), 1, new long[] {2, 1000000, 1});
        due.is("least(1, 2)", Due.with(million).least(1, 2), 1000000);
        front(Due.with(million.replace("within 1000000", "within 999999")), 1);
    }

    private void least() {
        promise(30);
        due.says("The least ERROR of an ANSWER by CHOICES that PASS, whose COST is so much at most");
        ShortEnough x = Due.with(SUM + "answer s within 1000;");
        long[][] want = {{8, 56, 100}, {9, 56, 100}, {11, 56, 100}, {12, 11, 10}, {16, 11, 10}, {Integer.MAX_VALUE, 11, 10}};
        for (long[] row : want) {
            due.is("least(3, " + row[0] + ")", x.least(3, (int) row[0]), row[1]);
            due.is("least(2, " + row[0] + ")", x.least(2, (int) row[0]), row[2]);
        }
        due.is("least(0, 0), nothing costs", Due.with("format p step 7 most 99 cost 0;input a 0 1;answer a within 3;").least(0, 0), 3);
        due.says("NOTHING when there is none, it is no ANSWER, or there are too many FREE GROUPS");
        for (int cost : new int[] {7, 0, -1, Integer.MIN_VALUE}) {
            due.is("least(3, " + cost + ")", x.least(3, cost), NOTHING);
        }
        due.is("least(0, 99), no ANSWER", x.least(0, 99), NOTHING);
        for (int i : CallEdges.NO_NUMBERS) {
            due.is("least(" + i + ", 99)", x.least(i, 99), NOTHING);
        }
        due.is("least(0, 999) of six", Due.with(SIX).least(0, 999), NOTHING);
        due.is("least(0, 999) of five", Due.with(SIX + "fixed f p;").least(0, 999), 0);
        due.is("least(3, 99), none PASSES", Due.with(NO_PASS).least(3, 99), NOTHING);
        due.is("least(0, 99), no CHOICE", Due.with(CLASH).least(0, 99), NOTHING);
        due.is("new least(0, 99)", new ShortEnough().least(0, 99), NOTHING);
    }

    private void certificate() {
        promise(31);
        due.says("The CERTIFICATE of the CHOICE at hand: byte i (0 .. 255) of it, as reckoned");
        ShortEnough x = CallEdges.passing();
        byte[] want = CertificateEdges.bytes(new long[] {0, 0, 3000, 50}, new long[] {0, -1000, 2000, 50},
            new long[] {0, -1000, 5000, 100}, new long[] {1, -500, 2500, 56});
        for (int i = 0; i < want.length; i++) {
            due.is("certificate(" + i + ")", x.certificate(i), want[i] & 255);
        }
        Due.put(x, want);
        due.is("check() of it", x.check(), true);
        // 14 NUMBERS, 350 bytes.
        ShortEnough far = Due.with("format f step 99999 most 99999999 cost 0;input a -10000000 9999999;input b 1 2;"
            + "input c 1 2;input d 1 2;input e 1 2;input g 1 2;input h 1 2;input i 1 2;input j 1 2;input k 1 2;"
            + "input l 1 2;input m 1 2;input n 1 2;input o -8388608 8388607;");
        byte[] bytes = new byte[350];
        for (int i = 0; i < 350; i++) {
            bytes[i] = (byte) far.certificate(i);
        }
        long[][] rows = new long[14][];
        for (int i = 0; i < 14; i++) {
            rows[i] = new long[] {0, far.range(i, false), far.range(i, true), far.error(i)};
        }
        due.is("its bytes", Arrays.equals(bytes, CertificateEdges.bytes(rows)), true);
        due.is("certificate(1), -10000000", far.certificate(1), 255);
        ShortEnough below = Due.with("format f step 2 most 99999999 cost 0;input a -7 -3;");
        int[] belowBytes = {0, 255, 255, 255, 255, 255, 255, 255, 249, 255, 255, 255, 255, 255, 255, 255, 253,
            0, 0, 0, 0, 0, 0, 0, 1};
        for (int i = 0; i < 25; i++) {
            due.is("certificate(" + i + ") of -7 .. -3", below.certificate(i), belowBytes[i]);
        }
        due.is("certificate(350)", far.certificate(350), NONE);
        due.is("certificate(349)", far.certificate(349), 99999 / 2 & 255);
        due.says("NONE when it does not PASS, or there is none such");
        for (int i : new int[] {100, 101, 1200, Integer.MAX_VALUE, -1, -2, Integer.MIN_VALUE}) {
            due.is("certificate(" + i + ")", x.certificate(i), NONE);
        }
        due.is("certificate(0), FAILS", Due.with(SUM).certificate(0), NONE);
        due.is("certificate(0), FAILS at the last", Due.with(SUM).certificate(99), NONE);
        due.is("certificate(0), no CHOICE", Due.with(CLASH).certificate(0), NONE);
        due.is("new certificate(0)", new ShortEnough().certificate(0), NONE);
    }

    private static byte[] sumBytes(long lastError) {
        return CertificateEdges.bytes(new long[] {0, 0, 3000, 50}, new long[] {0, -1000, 2000, 50},
            new long[] {0, -1000, 5000, 100}, new long[] {1, -500, 2500, lastError});
    }

    private void check() {
        promise(32);
        due.says("The tape (it goes, refused or not) is a CERTIFICATE: true, it HOLDS");
        ShortEnough x = Due.with(SUM);
        Due.put(x, sumBytes(56));
        due.is("check()", x.check(), true);
        due.is("end(1), the tape has gone", x.end(1), false);
        due.is("status(3)", x.status(3), 0);
        due.is("chosen(3), the CHOICE at hand stays", x.chosen(3), 0);
        due.says("false: it BREAKS, or is not just so long, refused (3), also without a TASK");
        Due.put(x, sumBytes(55));
        due.is("check(), it BREAKS", x.check(), false);
        due.is("end(1), the tape has gone", x.end(1), false);
        due.is("status(3)", x.status(3), 1);
        Due.put(x, Arrays.copyOf(sumBytes(56), 101));
        due.is("check(), too long", x.check(), false);
        due.is("end(1), the tape has gone", x.end(1), false);
        due.is("status(3)", x.status(3), 2);
        Due.put(x, Arrays.copyOf(sumBytes(56), 99));
        due.is("check(), too short", x.check(), false);
        due.is("check() of the empty tape", x.check(), false);
        due.is("status(3)", x.status(3), 4);
        ShortEnough none = new ShortEnough();
        due.is("check() without a TASK", none.check(), false);
        due.is("status(3)", none.status(3), 1);
        Due.put(none, sumBytes(56));
        due.is("check() without a TASK", none.check(), false);
        due.is("status(3)", none.status(3), 2);
        due.is("end(1), the tape has gone", none.end(1), false);
        due.is("task(), a CERTIFICATE is none", Due.tell(x, "format f step 1 most 9 cost 0;input a 0 1;"), 1);
        Due.put(x, sumBytes(56));
        due.is("check() of another TASK's", x.check(), false);
        due.is("broken(0)", x.broken(0), NONE);
    }

    private void broken() {
        promise(33);
        due.says("Of the latest check() (of this TASK): the NUMBER at which it BREAKS (what 0; -2: it HOLDS; NONE: not just so long, ahead of any), WHY (1; 0: it HOLDS, NONE likewise)");
        ShortEnough x = Due.with(SUM);
        due.is("broken(0) ahead of any", x.broken(0), NONE);
        due.is("broken(1) ahead of any", x.broken(1), NONE);
        Due.put(x, sumBytes(55));
        x.check();
        due.is("broken(0)", x.broken(0), 3);
        due.is("broken(1)", x.broken(1), 4);
        Due.put(x, sumBytes(56));
        x.check();
        due.is("broken(0), it HOLDS", x.broken(0), -2);
        due.is("broken(1), it HOLDS", x.broken(1), 0);
        Due.tell(x, "cast");
        due.is("broken(0), with a FAULT it stays", x.broken(0), -2);
        x.check();
        due.is("broken(0), not just so long", x.broken(0), NONE);
        due.is("broken(1), not just so long", x.broken(1), NONE);
        Due.put(x, sumBytes(81));
        x.check();
        due.is("broken(0)", x.broken(0), 3);
        due.is("broken(1)", x.broken(1), 6);
        Due.tell(x, SUM);
        due.is("broken(0), none of this TASK", x.broken(0), NONE);
        due.is("broken(1), none of this TASK", x.broken(1), NONE);
        ShortEnough none = new ShortEnough();
        none.check();
        due.is("broken(0) without a TASK", none.broken(0), NONE);
        due.is("broken(1) without a TASK", none.broken(1), NONE);
        due.says("NONE for others");
        for (String bytes : new String[] {"holds", "breaks", "none"}) {
            ShortEnough y = Due.with(SUM);
            if (!bytes.equals("none")) {
                Due.put(y, sumBytes(bytes.equals("holds") ? 56 : 55));
                y.check();
            }
            for (int what : new int[] {2, 3, -1, -2, Integer.MAX_VALUE, Integer.MIN_VALUE}) {
                due.is("broken(" + what + ")", y.broken(what), NONE);
            }
        }
    }

    private void trials() {
        promise(34);
        due.says("n TRIALS (1 .. 40) of the CHOICE at hand: the greatest amount by which KEPT and EXACT of a NUMBER were apart");
        // The seed becomes 1103527590, 377401575, 662824084, 1147902781: a 1542, b -473; a 926, b 604.
        ShortEnough x = CallEdges.passing();
        due.is("trials(1, 3): 535, 500", x.trials(1, 3), 35);
        due.is("has(7), the seed goes on", x.has(7), 377401575);
        due.is("trials(1, 0): 926, 900", x.trials(1, 0), 26);
        due.is("has(7)", x.has(7), 1147902781);
        long[] apart = {42, 27, 69, 35};
        for (int i = 0; i < 4; i++) {
            x.seed(1);
            due.is("trials(2, " + i + ")", x.trials(2, i), apart[i]);
            due.is("has(7)", x.has(7), 1147902781);
        }
        x.seed(1);
        due.is("trials(40, 3) within ERROR", x.trials(40, 3) <= 56, true);
        int behind = x.has(7);
        x.seed(1);
        for (int k = 0; k < 40; k++) {
            x.trials(1, 3);
        }
        due.is("has(7) behind 40 TRIALS", x.has(7), behind);
        due.is("status(4)", x.status(4), 0);
        due.says("NONE, refused (4), when n can't be, there is none such, or it does not PASS");
        int refused = 0;
        x.seed(9);
        for (int n : new int[] {0, -1, 41, 42, Integer.MAX_VALUE, Integer.MIN_VALUE}) {
            refused++;
            due.is("trials(" + n + ", 3)", x.trials(n, 3), NONE);
            due.is("status(4)", x.status(4), refused);
        }
        for (int i : CallEdges.NO_NUMBERS) {
            refused++;
            due.is("trials(1, " + i + ")", x.trials(1, i), NONE);
            due.is("status(4)", x.status(4), refused);
        }
        due.is("has(7) stays", x.has(7), 9);
        ShortEnough fails = Due.with(SUM);
        due.is("trials(1, 0), FAILS", fails.trials(1, 0), NONE);
        due.is("status(4)", fails.status(4), 1);
        due.is("has(7) stays", fails.has(7), 1);
        ShortEnough clash = Due.with(CLASH);
        due.is("trials(1, 0), no CHOICE", clash.trials(1, 0), NONE);
        due.is("status(4)", clash.status(4), 1);
        ShortEnough none = new ShortEnough();
        due.is("new trials(1, 0)", none.trials(1, 0), NONE);
        due.is("status(4)", none.status(4), 1);
    }

    private void trial() {
        promise(35);
        due.says("One TRIAL with the seed as it is (it stays so): of a NUMBER EXACT (false), KEPT (true)");
        ShortEnough x = CallEdges.passing();
        long[] exact = {1542, -473, 1069, 535};
        long[] kept = {1500, -500, 1000, 500};
        for (int i = 0; i < 4; i++) {
            due.is("trial(" + i + ", false)", x.trial(i, false), exact[i]);
            due.is("trial(" + i + ", true)", x.trial(i, true), kept[i]);
            due.is("has(7)", x.has(7), 1);
        }
        due.says("NOTHING when there is none such, or the CHOICE at hand does not PASS");
        for (int i : CallEdges.NO_NUMBERS) {
            due.is("trial(" + i + ", false)", x.trial(i, false), NOTHING);
            due.is("trial(" + i + ", true)", x.trial(i, true), NOTHING);
        }
        for (String text : new String[] {SUM, CLASH, ""}) {
            ShortEnough y = text.isEmpty() ? new ShortEnough() : Due.with(text);
            due.is("trial(0, false)", y.trial(0, false), NOTHING);
            due.is("trial(0, true)", y.trial(0, true), NOTHING);
            due.is("status(4), none is refused", y.status(4), 0);
        }
    }

    private void seed() {
        promise(36);
        due.says("The seed: true");
        ShortEnough x = new ShortEnough();
        for (int seed : new int[] {0, 1, 7, Integer.MAX_VALUE}) {
            due.is("seed(" + seed + ")", x.seed(seed), true);
            due.is("has(7)", x.has(7), seed);
        }
        due.is("status(4)", x.status(4), 0);
        due.says("false, refused (4), when it is below 0");
        due.is("seed(-1)", x.seed(-1), false);
        due.is("status(4)", x.status(4), 1);
        due.is("seed(least)", x.seed(Integer.MIN_VALUE), false);
        due.is("status(4)", x.status(4), 2);
        due.is("has(7) stays", x.has(7), Integer.MAX_VALUE);
    }

    private void status() {
        promise(37);
        due.says("How many were refused: 0 feed(), end(); 1 task(); 2 choose(), take(); 3 check(); 4 trials(), seed()");
        ShortEnough x = new ShortEnough();
        long[] want = new long[5];
        for (int k = 0; k < 16; k++) {
            refuse(x, k, want);
            for (int what = 0; what < 5; what++) {
                due.is("status(" + what + ") behind " + k, x.status(what), want[what]);
            }
        }
        Due.tell(x, SUM);
        for (int what = 0; what < 5; what++) {
            due.is("status(" + what + ") stays with a TASK", x.status(what), want[what]);
        }
        due.says("NONE for others");
        for (int what : new int[] {5, 6, -1, -2, Integer.MAX_VALUE, Integer.MIN_VALUE}) {
            due.is("status(" + what + ")", x.status(what), NONE);
            due.is("new status(" + what + ")", new ShortEnough().status(what), NONE);
        }
    }

    /** One of eight calls that are refused, counted where it is due. */
    private static void refuse(ShortEnough x, int k, long[] counts) {
        switch (k % 8) {
            case 0 -> {
                for (int n = 0; n < 60; n++) {
                    x.feed(0, 0, 0, 0, 0);
                }
                x.feed(0, 0, 0, 0, 0);
                x.end(0);
                counts[0]++;
            }
            case 1 -> {
                x.end(-1);
                counts[0]++;
            }
            case 2 -> {
                x.task();
                counts[1]++;
            }
            case 3 -> {
                x.choose(0, 0);
                counts[2]++;
            }
            case 4 -> {
                x.take(0);
                counts[2]++;
            }
            case 5 -> {
                x.check();
                counts[3]++;
            }
            case 6 -> {
                x.trials(1, 0);
                counts[4]++;
            }
            default -> {
                x.seed(-1);
                counts[4]++;
            }
        }
    }
}
