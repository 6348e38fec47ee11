/** Promises 1 to 23: which calls are refused, and what is answered when there is none such. */
final class CallEdges {
    static final int NONE = ShortEnough.NONE;
    static final long NOTHING = ShortEnough.NOTHING;
    /** None of these is a NUMBER of a TASK of four. */
    static final int[] NO_NUMBERS = {4, 5, 14, 1000, Integer.MAX_VALUE, -1, -2, -3, Integer.MIN_VALUE};

    /** GROUPS a b, s, p. CHOICES that PASS: 001 (cost 8, ERROR 56), 011 (12, 56), 101 (16, 61), 111 (12, 11). */
    static final String SUM = "format short step 100 most 100000 cost 1;"
        + "format long step 10 most 1000000 cost 3;cast 2;input a 0 3000;input b -1000 2000;"
        + "let s = a + b;let p = s * 500;answer p within 80;group a b;";

    /** A TASK of four NUMBERS without a CHOICE; all of them are 0, so that nothing else could be too great. */
    static final String CLASH = "format p step 1 most 1000 cost 3;format q step 1 most 1000 cost 1;"
        + "cast 0;input c 0 0;input a 0 0;input b 0 0;let d = c + c;group a b;fixed a p;fixed b q;answer c within 9;";

    private EdgesTest.Says due;

    static ShortEnough passing() {
        ShortEnough x = Due.with(SUM);
        x.choose(3, 1);
        return x;
    }

    private void promise(int number) {
        due = new EdgesTest.Says("Promise " + number);
    }

    void run() {
        newObject();
        feed();
        end();
        task();
        fault();
        has();
        letter();
        format();
        number();
        told();
        range();
        uses();
        depth();
        chosen();
        choose();
        cost();
        casts();
        fails();
        why();
        error();
        slack();
        widest();
        blame();
    }

    private void newObject() {
        promise(1);
        due.says("No TASK");
        ShortEnough x = new ShortEnough();
        due.is("has(0)", x.has(0), 0);
        due.is("chosen(0)", x.chosen(0), NONE);
        due.is("passing()", x.passing(), NONE);
        due.is("end(1), the tape is empty", x.end(1), false);
        due.is("task() of the empty tape", x.task(), NONE);
        due.is("fault(0)", x.fault(0), 4);
        due.is("fault(1)", x.fault(1), 0);
        due.says("the seed is 1");
        due.is("has(7)", new ShortEnough().has(7), 1);
    }

    private void feed() {
        promise(2);
        due.says("Twenty bytes come behind those on the tape, of each number the highest first");
        String text = "format f step 1 most 255 cost 0;input a 1 2;let b = a + a;let c = b + a;";
        ShortEnough x = new ShortEnough();
        Due.put(x, Due.bytes(text));
        due.is("task()", x.task(), 3);
        due.is("format(0, 1)", x.format(0, 1), 255);
        for (int k = 0; k < 20; k++) {
            // "cast 1;cast 2;cast 3", with a sign that no TASK has in the place of byte k.
            byte[] bytes = Due.bytes("cast 1;cast 2;cast 3");
            bytes[k] = (byte) 200;
            Due.put(x, bytes);
            x.task();
            due.is("fault(1) with a bad byte " + k, x.fault(1), "cast".indexOf("cast 1;cast 2;cast 3".charAt(k)) > 0
                ? k / 7 * 7 : k);
        }
        due.says("how many there are");
        due.is("feed", x.feed(0, 0, 0, 0, 0), 20);
        due.is("feed", x.feed(-1, Integer.MIN_VALUE, Integer.MAX_VALUE, 7, 1), 40);
        x.end(3);
        due.is("feed behind 3", x.feed(0, 0, 0, 0, -1), 23);
        due.is("feed behind 23", x.feed(0, 0, 0, 0, -1), 43);
        due.says("NONE, refused (0), if there would be more than 1200");
        ShortEnough y = new ShortEnough();
        for (int n = 20; n <= 1200; n += 20) {
            due.is("feed", y.feed(0x20202020, 0x20202020, 0x20202020, 0x20202020, 0x20202020), n);
        }
        due.is("status(0)", y.status(0), 0);
        due.is("feed to 1220", y.feed(1, 1, 1, 1, 1), NONE);
        due.is("status(0)", y.status(0), 1);
        due.is("end(1200), the tape stays", y.end(1200), true);
        due.is("end(1181)", y.end(1181), true);
        due.is("feed to 1201", y.feed(1, 1, 1, 1, 1), NONE);
        due.is("end(1182), no byte of it came", y.end(1182), false);
        due.is("status(0)", y.status(0), 3);
        due.is("task() of 1181 blanks", y.task(), NONE);
        due.is("fault(1)", y.fault(1), 1181);
        for (int n = 20; n <= 1180; n += 20) {
            y.feed(0x20202020, 0x20202020, 0x20202020, 0x20202020, 0x20202020);
        }
        due.is("feed to 1200", y.feed(0x20202020, 0x20202020, 0x20202020, 0x20202020, 0x20202020), 1200);
        due.is("task() of 1200 blanks", y.task(), NONE);
        due.is("fault(1)", y.fault(1), 1200);
        String full = " ".repeat(1200 - SUM.length()) + SUM;
        due.is("task() of 1200 bytes", Due.tell(y, full), 4);
    }

    private void end() {
        promise(3);
        due.says("The tape has its first n bytes alone: true");
        ShortEnough x = new ShortEnough();
        due.is("end(0) of none", x.end(0), true);
        Due.put(x, Due.bytes("cast 5;cast 6;cast 7"));
        due.is("end(20), as it is", x.end(20), true);
        due.is("end(14)", x.end(14), true);
        due.is("task()", x.task(), NONE);
        due.is("fault(0)", x.fault(0), 4);
        due.is("fault(1)", x.fault(1), 14);
        x.feed(1, 2, 3, 4, 5);
        due.is("end(0)", x.end(0), true);
        due.is("feed behind 0", x.feed(1, 2, 3, 4, 5), 20);
        due.is("status(0)", x.status(0), 0);
        due.says("false, refused (0), if it has not so many, or n is below 0");
        for (int n : new int[] {21, 1200, Integer.MAX_VALUE, -1, Integer.MIN_VALUE}) {
            due.is("end(" + n + ")", x.end(n), false);
        }
        due.is("status(0)", x.status(0), 5);
        due.is("the tape stays", x.feed(1, 2, 3, 4, 5), 40);
        due.is("end(7)", x.end(7), true);
        due.is("end(8), these have gone", x.end(8), false);
        due.is("status(0)", x.status(0), 6);
    }

    private void task() {
        promise(4);
        due.says("The tape (it goes, refused or not) is THE TASK: how many NUMBERS");
        ShortEnough x = new ShortEnough();
        due.is("task()", Due.tell(x, SUM), 4);
        due.is("end(1), the tape has gone", x.end(1), false);
        due.is("task()", Due.tell(x, "cast"), NONE);
        due.is("end(1), the tape has gone", x.end(1), false);
        due.is("task() of a text of one NUMBER", Due.tell(x, "format f step 1 most 9 cost 0;input a 0 1;"), 1);
        due.is("has(2)", x.has(2), 1);
        due.is("has(6)", x.has(6), 1);
        due.is("number(1, 0)", x.number(1, 0), -2);
        due.says("NONE, refused (1), with a FAULT (all stays)");
        ShortEnough y = passing();
        y.trials(1, 0);
        int seed = y.has(7);
        Due.put(y, CertificateEdges.bytes(new long[] {0, 0, 3000, 50}, new long[] {0, -1000, 2000, 50},
            new long[] {0, -1000, 5000, 100}, new long[] {1, -500, 2500, 56}));
        due.is("check()", y.check(), true);
        String[] faults = {"", "x", "format f step 0", "input c 1 2;input c 1 2;cast 9;", "cast 9;input z 0 1;fixed z"};
        for (int k = 0; k < faults.length; k++) {
            due.is("task() of " + faults[k], Due.tell(y, faults[k]), NONE);
            due.is("status(1)", y.status(1), k + 1);
            due.is("has(0)", y.has(0), 4);
            due.is("has(1)", y.has(1), 2);
            due.is("has(6)", y.has(6), 2);
            due.is("letter(3, false, 0)", y.letter(3, false, 0), 16);
            due.is("told(0, 1)", y.told(0, 1), 3000);
            due.is("range(3, true)", y.range(3, true), 2500);
            due.is("chosen(3)", y.chosen(3), 1);
            due.is("fails()", y.fails(), -2);
            due.is("cheapest(NONE)", y.cheapest(NONE), 8);
            due.is("halves(NONE)", y.halves(NONE), 12);
            due.is("front(3, 1, 1)", y.front(3, 1, 1), 11);
            due.is("broken(0)", y.broken(0), -2);
            due.is("has(7)", y.has(7), seed);
        }
        due.says("Without one the CHOICE at hand is as at first, no CERTIFICATE is read; the seed stays");
        due.is("task()", Due.tell(y, SUM), 4);
        due.is("chosen(3)", y.chosen(3), 0);
        due.is("broken(0)", y.broken(0), NONE);
        due.is("broken(1)", y.broken(1), NONE);
        due.is("has(7)", y.has(7), seed);
        due.is("status(1)", y.status(1), faults.length);
        searchesOfTheNew(y);
    }

    /** What was found for one TASK is not told of the next. */
    private void searchesOfTheNew(ShortEnough x) {
        String other = "format c step 100 most 1000000 cost 1;format d step 1 most 1000000 cost 5;cast 0;"
            + "input a 0 10;input b 0 10;let s = a + b;let t = s + 0;answer t within ";
        for (int within : new int[] {60, 0, 500, 50}) {
            String text = other + within + ";";
            ShortEnough fresh = Due.with(text);
            due.is("task()", Due.tell(x, text), 4);
            due.is("passing(), " + within, x.passing(), fresh.passing());
            due.is("cheapest(NONE), " + within, x.cheapest(NONE), fresh.cheapest(NONE));
            due.is("least(3, 8), " + within, x.least(3, 8), fresh.least(3, 8));
            due.is("front(3, NONE, 0), " + within, x.front(3, NONE, 0), fresh.front(3, NONE, 0));
            due.is("front(3, 0, 1), " + within, x.front(3, 0, 1), fresh.front(3, 0, 1));
            due.is("halves(NONE), " + within, x.halves(NONE), fresh.halves(NONE));
            due.is("halves(-2), " + within, x.halves(-2), fresh.halves(-2));
            due.is("take(1), " + within, x.take(1), fresh.take(1));
        }
        due.is("task() without a CHOICE", Due.tell(x, CLASH), 4);
        due.is("chosen(0)", x.chosen(0), NONE);
        due.is("passing()", x.passing(), 0);
        due.is("halves(NONE)", x.halves(NONE), NONE);
        due.is("task() with one", Due.tell(x, SUM), 4);
        due.is("chosen(0)", x.chosen(0), 0);
        due.is("passing()", x.passing(), 4);
        due.is("halves(NONE)", x.halves(NONE), 12);
    }

    private void fault() {
        promise(5);
        due.says("Of the latest task(): its FAULT (what 0; 0 without, and ahead of any), its place (1; NONE without)");
        ShortEnough x = new ShortEnough();
        due.is("fault(0) ahead of any", x.fault(0), 0);
        due.is("fault(1) ahead of any", x.fault(1), NONE);
        Due.tell(x, "cast 1000;");
        due.is("fault(0)", x.fault(0), 2);
        due.is("fault(1)", x.fault(1), 5);
        Due.tell(x, "x");
        due.is("fault(0) of the latest", x.fault(0), 1);
        due.is("fault(1) of the latest", x.fault(1), 0);
        Due.tell(x, SUM);
        due.is("fault(0) without", x.fault(0), 0);
        due.is("fault(1) without", x.fault(1), NONE);
        Due.tell(x, "input a 0 1;answer b");
        x.choose(0, 1);
        due.is("fault(0) stays", x.fault(0), 3);
        due.is("fault(1) stays", x.fault(1), 19);
        due.says("NONE for another what");
        for (int what : new int[] {2, 3, 4, -1, -2, Integer.MAX_VALUE, Integer.MIN_VALUE}) {
            due.is("fault(" + what + ")", x.fault(what), NONE);
            due.is("new fault(" + what + ")", new ShortEnough().fault(what), NONE);
        }
    }

    private void has() {
        promise(6);
        due.says("0 NUMBERS, 1 FORMATS, 2 inputs, 3 ANSWERS, 4 GROUPS, 5 FREE GROUPS, 6 what a CAST costs, 7 the seed");
        ShortEnough x = Due.with(SUM + "fixed b long;answer p within 7;answer s within 8;answer b within 8;");
        x.seed(77);
        long[] want = {4, 2, 2, 3, 3, 2, 2, 77};
        for (int what = 0; what < want.length; what++) {
            due.is("has(" + what + ")", x.has(what), want[what]);
        }
        Due.tell(x, "format f step 1 most 9 cost 0;let a = 1 + 1;");
        long[] least = {1, 1, 0, 0, 1, 1, 1, 77};
        for (int what = 0; what < least.length; what++) {
            due.is("has(" + what + ")", x.has(what), least[what]);
        }
        due.says("Without a TASK all but the seed are 0");
        ShortEnough y = new ShortEnough();
        Due.tell(y, "cast 7;input a 0 1;answer a within 5;format");
        y.seed(5);
        for (int what = 0; what < 7; what++) {
            due.is("has(" + what + ")", y.has(what), 0);
            due.is("new has(" + what + ")", new ShortEnough().has(what), 0);
        }
        due.is("has(7)", y.has(7), 5);
        due.says("NONE for others");
        for (int what : new int[] {8, 9, -1, -2, Integer.MAX_VALUE, Integer.MIN_VALUE}) {
            due.is("has(" + what + ")", x.has(what), NONE);
            due.is("new has(" + what + ")", new ShortEnough().has(what), NONE);
        }
    }

    private void letter() {
        promise(7);
        due.says("Letter k (0 .. 5) of a NUMBER's NAME, of a FORMAT's (isFormat): 1 .. 26; 0 behind it");
        ShortEnough x = Due.with("format zyxabc step 1 most 1 cost 1;input mn 0 0;input a 0 0;input bcdefg 0 0;");
        int[][] names = {{13, 14, 0, 0, 0, 0}, {1, 0, 0, 0, 0, 0}, {2, 3, 4, 5, 6, 7}};
        int[] format = {26, 25, 24, 1, 2, 3};
        for (int k = 0; k < 6; k++) {
            due.is("letter(0, true, " + k + ")", x.letter(0, true, k), format[k]);
            for (int i = 0; i < names.length; i++) {
                due.is("letter(" + i + ", false, " + k + ")", x.letter(i, false, k), names[i][k]);
            }
        }
        due.says("NONE when there is none such");
        for (int k : new int[] {6, 7, 32, -1, Integer.MAX_VALUE, Integer.MIN_VALUE}) {
            due.is("letter(0, true, " + k + ")", x.letter(0, true, k), NONE);
            due.is("letter(0, false, " + k + ")", x.letter(0, false, k), NONE);
        }
        due.is("letter(2, true, 0), a NUMBER alone", x.letter(2, true, 0), NONE);
        due.is("letter(3, false, 0)", x.letter(3, false, 0), NONE);
        ShortEnough y = Due.with("format p step 1 most 1 cost 1;format q step 1 most 1 cost 1;input a 0 0;");
        due.is("letter(1, true, 0)", y.letter(1, true, 0), 17);
        due.is("letter(1, false, 0), a FORMAT alone", y.letter(1, false, 0), NONE);
        for (int i : NO_NUMBERS) {
            due.is("letter(" + i + ", true, 0)", x.letter(i, true, 0), NONE);
            due.is("letter(" + i + ", false, 0)", x.letter(i, false, 0), NONE);
        }
        due.is("new letter(0, true, 0)", new ShortEnough().letter(0, true, 0), NONE);
        due.is("new letter(0, false, 0)", new ShortEnough().letter(0, false, 0), NONE);
    }

    private void format() {
        promise(8);
        due.says("Of a FORMAT: 0 step, 1 most, 2 cost");
        ShortEnough x = Due.with(SUM);
        long[][] want = {{100, 100000, 1}, {10, 1000000, 3}};
        for (int f = 0; f < 2; f++) {
            for (int what = 0; what < 3; what++) {
                due.is("format(" + f + ", " + what + ")", x.format(f, what), want[f][what]);
            }
        }
        due.says("NONE when there is none such, or for others");
        for (int f : new int[] {2, 3, 4, -1, Integer.MAX_VALUE, Integer.MIN_VALUE}) {
            due.is("format(" + f + ", 0)", x.format(f, 0), NONE);
        }
        for (int what : new int[] {3, 4, -1, Integer.MAX_VALUE, Integer.MIN_VALUE}) {
            due.is("format(0, " + what + ")", x.format(0, what), NONE);
        }
        due.is("new format(0, 0)", new ShortEnough().format(0, 0), NONE);
    }

    private void number() {
        promise(9);
        due.says("Of a NUMBER: 0 OP (0 input, 1 + , 2 -, 3 *, 4 min, 5 max), 1, 2 the NUMBERS of its first, its second WHAT (NONE: V, input), 3 its GROUP (by their least NUMBERS, from 0 on), 4 the FORMAT as which it is fixed (NONE), 5 what its ERROR may be (NONE: no ANSWER)");
        ShortEnough x = Due.with("format f step 1 most 9 cost 0;format g step 1 most 9 cost 0;let z = 3 + 4;input a 0 1;"
            + "let b = a - z;let c = 5 * b;let d = c min 5;let e = z max z;group e b;group d a;fixed z g;fixed e f;"
            + "answer z within 0;answer d within 1000000;");
        int[][] want = {{1, NONE, NONE, 0, 1, 0}, {0, NONE, NONE, 1, NONE, NONE}, {2, 1, 0, 2, NONE, NONE},
            {3, NONE, 2, 3, NONE, NONE}, {4, 3, NONE, 1, NONE, 1000000}, {5, 0, 0, 2, 0, NONE}};
        for (int i = 0; i < want.length; i++) {
            for (int what = 0; what < 6; what++) {
                due.is("number(" + i + ", " + what + ")", x.number(i, what), want[i][what]);
            }
        }
        due.says("-2 when there is none such, or for others");
        for (int what : new int[] {6, 7, -1, -2, Integer.MAX_VALUE, Integer.MIN_VALUE}) {
            due.is("number(0, " + what + ")", x.number(0, what), -2);
        }
        ShortEnough y = Due.with(SUM);
        for (int i : NO_NUMBERS) {
            due.is("number(" + i + ", 0)", y.number(i, 0), -2);
        }
        due.is("new number(0, 0)", new ShortEnough().number(0, 0), -2);
    }

    private void told() {
        promise(10);
        due.says("V of a WHAT of a let (which 0, 1), the ends of an input's box (0, 1)");
        ShortEnough x = Due.with("format f step 1 most 9 cost 0;let z = -3 + 0;input a -7 1;let b = a - 6;let c = 5 * z;");
        long[][] want = {{-3, 0}, {-7, 1}, {NOTHING, 6}, {5, NOTHING}};
        for (int i = 0; i < want.length; i++) {
            due.is("told(" + i + ", 0)", x.told(i, 0), want[i][0]);
            due.is("told(" + i + ", 1)", x.told(i, 1), want[i][1]);
        }
        due.says("NOTHING when there is none such");
        for (int which : new int[] {2, 3, -1, Integer.MAX_VALUE, Integer.MIN_VALUE}) {
            due.is("told(0, " + which + ")", x.told(0, which), NOTHING);
            due.is("told(1, " + which + ")", x.told(1, which), NOTHING);
        }
        for (int i : NO_NUMBERS) {
            due.is("told(" + i + ", 0)", x.told(i, 0), NOTHING);
        }
        due.is("new told(0, 0)", new ShortEnough().told(0, 0), NOTHING);
    }

    private void range() {
        promise(11);
        due.says("RANGE of a NUMBER: least (false), greatest");
        ShortEnough x = Due.with(SUM);
        due.is("range(1, false)", x.range(1, false), -1000);
        due.is("range(1, true)", x.range(1, true), 2000);
        due.is("range(3, true) without a CHOICE", Due.with(CLASH).range(3, true), 0);
        due.says("NOTHING when there is none such, or an amount of a RANGE of those that it is made of (and so on), or its own, is above 10 to the 9");
        for (int i : NO_NUMBERS) {
            due.is("range(" + i + ", false)", x.range(i, false), NOTHING);
            due.is("range(" + i + ", true)", x.range(i, true), NOTHING);
        }
        due.is("new range(0, true)", new ShortEnough().range(0, true), NOTHING);
        String w = "format f step 1 most 9 cost 0;input w -10000000 10000000;input a 10000000 10000000;let ";
        ShortEnough y = Due.with(w + "b = a * 100000;let c = b + 1;let d = c min 5;let e = 5 + d;let g = w * 100000;"
            + "let h = 5 max g;let i = g - 1;let j = 0 - b;let k = j - 1;let l = 5 max i;let m = 1 - k;let n = a * -100000;");
        long[] least = {-10000000, 10000000, 1000000000, NOTHING, NOTHING, NOTHING, -1000000000, 5, NOTHING,
            -1000000000, NOTHING, NOTHING, NOTHING, -1000000000};
        long[] greatest = {10000000, 10000000, 1000000000, NOTHING, NOTHING, NOTHING, 1000000000, 1000000000, NOTHING,
            -1000000000, NOTHING, NOTHING, NOTHING, -1000000000};
        for (int i = 0; i < least.length; i++) {
            due.is("range(" + i + ", false)", y.range(i, false), least[i]);
            due.is("range(" + i + ", true)", y.range(i, true), greatest[i]);
        }
        ShortEnough far = Due.with(w + "b = w * w;let c = b * b;let d = c * c;let e = d * d;let g = e * e;let h = g * g;"
            + "let i = h * 0;let j = h - h;let k = h min h;let l = w - w;");
        for (int i = 2; i < 11; i++) {
            due.is("range(" + i + ", false)", far.range(i, false), NOTHING);
            due.is("range(" + i + ", true)", far.range(i, true), NOTHING);
        }
        due.is("range(11, false)", far.range(11, false), -20000000);
        due.is("fails(), most is less", far.fails(), 0);
    }

    private void uses() {
        promise(12);
        due.says("NUMBERS that are made of a NUMBER, at once or by others, as bits");
        ShortEnough x = Due.with("format f step 1 most 9 cost 0;let a = 3 + 4;let b = a + a;input c 0 1;let d = 5 + c;"
            + "let e = c * b;let g = 1 + 1;let h = g - d;let i = 7 min h;input j 0 1;let k = j + j;input l 0 1;"
            + "input m 0 1;let n = i + e;let o = n max 5;");
        int[] want = {0b11000000010010, 0b11000000010000, 0b11000011011000, 0b11000011000000, 0b11000000000000,
            0b11000011000000, 0b11000010000000, 0b11000000000000, 0b00001000000000, 0, 0, 0, 0b10000000000000, 0};
        for (int i = 0; i < want.length; i++) {
            due.is("uses(" + i + ")", x.uses(i), want[i]);
        }
        due.says("NONE when there is none such");
        for (int i : NO_NUMBERS) {
            due.is("uses(" + i + ")", Due.with(SUM).uses(i), NONE);
        }
        due.is("uses(14)", x.uses(14), NONE);
        due.is("new uses(0)", new ShortEnough().uses(0), NONE);
    }

    private void depth() {
        promise(13);
        due.says("How many lets deep a NUMBER is: 0 an input; of a let 1 more than the deeper one of its WHATS (V: 0)");
        ShortEnough x = Due.with("format f step 1 most 9 cost 0;let a = 3 + 4;let b = a + 5;let c = 5 + b;input d 0 1;"
            + "let e = d + c;let g = c + d;let h = d + d;let i = h - g;let j = i + 1;let k = j + j;let l = k + a;"
            + "let m = a + l;let n = m + m;let o = n + n;");
        int[] want = {1, 2, 3, 0, 4, 4, 1, 5, 6, 7, 8, 9, 10, 11};
        for (int i = 0; i < want.length; i++) {
            due.is("depth(" + i + ")", x.depth(i), want[i]);
        }
        due.says("NONE when there is none such");
        for (int i : NO_NUMBERS) {
            due.is("depth(" + i + ")", Due.with(SUM).depth(i), NONE);
        }
        due.is("new depth(0)", new ShortEnough().depth(0), NONE);
    }

    private void chosen() {
        promise(14);
        due.says("The FORMAT of a NUMBER in the CHOICE at hand");
        ShortEnough x = Due.with(SUM + "fixed b long;");
        int[] want = {1, 1, 0, 0};
        for (int i = 0; i < 4; i++) {
            due.is("chosen(" + i + ")", x.chosen(i), want[i]);
        }
        due.says("NONE when there is none such");
        for (int i : NO_NUMBERS) {
            due.is("chosen(" + i + ")", x.chosen(i), NONE);
        }
        due.is("chosen(0) without a CHOICE", Due.with(CLASH).chosen(0), NONE);
        due.is("new chosen(0)", new ShortEnough().chosen(0), NONE);
    }

    private void choose() {
        promise(15);
        due.says("The GROUP of a NUMBER has a FORMAT from now on: which it had");
        ShortEnough x = Due.with(SUM + "fixed s long;");
        due.is("choose(1, 1)", x.choose(1, 1), 0);
        due.is("choose(0, 1), as it is", x.choose(0, 1), 1);
        due.is("choose(0, 0)", x.choose(0, 0), 1);
        due.is("chosen(1)", x.chosen(1), 0);
        due.is("choose(3, 1)", x.choose(3, 1), 0);
        due.is("status(2)", x.status(2), 0);
        due.says("NONE, refused (2), when there is none such (either), or there is no CHOICE at hand, or the GROUP is not FREE");
        int refused = 0;
        for (int i : NO_NUMBERS) {
            refused++;
            due.is("choose(" + i + ", 0)", x.choose(i, 0), NONE);
            due.is("status(2)", x.status(2), refused);
        }
        for (int f : new int[] {2, 3, 4, -1, -2, Integer.MAX_VALUE, Integer.MIN_VALUE}) {
            refused++;
            due.is("choose(0, " + f + ")", x.choose(0, f), NONE);
            due.is("status(2)", x.status(2), refused);
        }
        due.is("choose(2, 0), not FREE", x.choose(2, 0), NONE);
        due.is("choose(2, 1), not FREE", x.choose(2, 1), NONE);
        due.is("status(2)", x.status(2), refused + 2);
        int[] stays = {0, 0, 1, 1};
        for (int i = 0; i < 4; i++) {
            due.is("chosen(" + i + ") stays", x.chosen(i), stays[i]);
        }
        ShortEnough grouped = Due.with(SUM + "fixed b long;");
        due.is("choose(0, 0), fixed by its GROUP", grouped.choose(0, 0), NONE);
        due.is("chosen(0)", grouped.chosen(0), 1);
        ShortEnough clash = Due.with(CLASH);
        due.is("choose(0, 0) without a CHOICE", clash.choose(0, 0), NONE);
        due.is("status(2)", clash.status(2), 1);
        ShortEnough none = new ShortEnough();
        due.is("new choose(0, 0)", none.choose(0, 0), NONE);
        due.is("status(2)", none.status(2), 1);
    }

    private void cost() {
        promise(16);
        due.says("Its COST");
        due.is("cost()", passing().cost(), 8);
        due.is("cost() of what FAILS", Due.with(SUM).cost(), 4);
        due.says("NONE when there is none");
        due.is("cost() without a CHOICE", Due.with(CLASH).cost(), NONE);
        due.is("new cost()", new ShortEnough().cost(), NONE);
    }

    private void casts() {
        promise(17);
        due.says("How many CASTS it costs");
        due.is("casts()", passing().casts(), 1);
        due.is("casts() of what FAILS", Due.with(SUM).casts(), 0);
        due.is("casts(), though each costs 0", Due.with(SUM + "cast 0;fixed s long;").casts(), 3);
        due.says("NONE when there is none");
        due.is("casts() without a CHOICE", Due.with(CLASH).casts(), NONE);
        due.is("new casts()", new ShortEnough().casts(), NONE);
    }

    private void fails() {
        promise(18);
        due.says("The NUMBER at which it FAILS");
        due.is("fails()", Due.with(SUM).fails(), 3);
        due.is("fails() at 0", Due.with(SUM + "answer a within 49;").fails(), 0);
        due.says("-2: it PASSES");
        due.is("fails()", passing().fails(), -2);
        due.says("NONE: there is none");
        due.is("fails() without a CHOICE", Due.with(CLASH).fails(), NONE);
        due.is("new fails()", new ShortEnough().fails(), NONE);
    }

    private void why() {
        promise(19);
        due.says("WHY (1, 2; 0: it PASSES)");
        due.is("why() by ERROR", Due.with(SUM).why(), 2);
        due.is("why() of the first one", Due.with(SUM + "input z 0 99951;").why(), 2);
        ShortEnough x = Due.with(SUM + "input z 0 99951;");
        x.choose(3, 1);
        due.is("why() by most", x.why(), 1);
        due.is("fails() by most", x.fails(), 4);
        due.is("why() of what PASSES", passing().why(), 0);
        due.says("NONE: there is none");
        due.is("why() without a CHOICE", Due.with(CLASH).why(), NONE);
        due.is("new why()", new ShortEnough().why(), NONE);
    }

    private void error() {
        promise(20);
        due.says("ERROR of a NUMBER in it");
        long[] want = {50, 50, 100, 56};
        ShortEnough x = passing();
        for (int i = 0; i < 4; i++) {
            due.is("error(" + i + ")", x.error(i), want[i]);
        }
        due.says("NOTHING when there is none such, or it FAILS ahead of it (that one itself is told)");
        for (int i : NO_NUMBERS) {
            due.is("error(" + i + ")", x.error(i), NOTHING);
        }
        ShortEnough y = Due.with(SUM + "let e = a + a;");
        due.is("error(2) ahead of it", y.error(2), 100);
        due.is("error(3), that one itself", y.error(3), 101);
        due.is("error(4) behind it", y.error(4), NOTHING);
        due.is("error(5), none such", y.error(5), NOTHING);
        ShortEnough first = Due.with(SUM + "answer a within 49;");
        due.is("error(0), that one itself", first.error(0), 50);
        due.is("error(1) behind it", first.error(1), NOTHING);
        due.is("error(-1)", first.error(-1), NOTHING);
        due.is("error(0) without a CHOICE", Due.with(CLASH).error(0), NOTHING);
        due.is("new error(0)", new ShortEnough().error(0), NOTHING);
        // Above 10 to the 9: RANGE is not told, ERROR is; 10 to the 10 and 1000 by 500 .. by 1000.
        ShortEnough wide = Due.with("format f step 1000 most 99999999 cost 0;input w 10000000 10000000;let b = w * w;let c = b + b;");
        due.is("error(1)", wide.error(1), (2 * 10000000L * 500 + 250000) / 1000 + 500 + 1);
        due.is("fails()", wide.fails(), 1);
        due.is("error(2)", wide.error(2), NOTHING);
    }

    private void slack() {
        promise(21);
        due.says("How much the ERROR of an ANSWER could be less, all else being told so, and it would still PASS: what it may be less its ERROR");
        ShortEnough x = Due.with(SUM + "answer a within 50;");
        x.choose(3, 1);
        due.is("slack(3)", x.slack(3), 24);
        due.is("slack(0)", x.slack(0), 0);
        due.is("slack(3) just so", Due.with(SUM + "answer p within 56;fixed p long;").slack(3), 0);
        due.is("slack(3) at most", Due.with(SUM + "answer p within 1000000;fixed p long;").slack(3), 1000000 - 56);
        due.says("NOTHING when it does not PASS, or it is no ANSWER");
        due.is("slack(3), FAILS", Due.with(SUM).slack(3), NOTHING);
        due.is("slack(0), FAILS behind it", Due.with(SUM + "answer a within 60;").slack(0), NOTHING);
        due.is("slack(1), no ANSWER", x.slack(1), NOTHING);
        due.is("slack(2), no ANSWER", x.slack(2), NOTHING);
        for (int i : NO_NUMBERS) {
            due.is("slack(" + i + ")", x.slack(i), NOTHING);
        }
        due.is("slack(0) without a CHOICE", Due.with(CLASH).slack(0), NOTHING);
        due.is("new slack(0)", new ShortEnough().slack(0), NOTHING);
    }

    private void widest() {
        promise(22);
        due.says("The most by which a box of an input can be longer at both ends (0 .. 10000000; ends as they come, however far), and it would PASS");
        due.is("widest(0): s and 100 reach 100000", passing().widest(0), 94900);
        due.is("widest(1): s and 100 reach 100000", passing().widest(1), 94900);
        String box = "format f step 1 most 20000000 cost 0;input a -10000000 10000000;";
        due.is("ends at 20000000", Due.with(box).widest(0), 10000000);
        due.is("ends at 19999999", Due.with(box.replace("20000000", "19999999")).widest(0), 9999999);
        due.is("ends at 10000000", Due.with(box.replace("most 20000000", "most 10000000")).widest(0), 0);
        due.is("ends at 10000001", Due.with(box.replace("most 20000000", "most 10000001")).widest(0), 1);
        String far = "format f step 1 most 15000000 cost 0;input a ";
        due.is("the lower end at -15000000", Due.with(far + "-10000000 -9999999;").widest(0), 5000000);
        due.is("the upper end at 15000000", Due.with(far + "9999999 10000000;").widest(0), 5000000);
        String wide = "format f step 1 most 99999999 cost 0;input a 3 7;";
        due.is("no further than 10000000", Due.with(wide).widest(0), 10000000);
        due.is("the lower end", Due.with("format f step 1 most 100 cost 0;input a -90 7;").widest(0), 10);
        due.is("the upper end", Due.with("format f step 1 most 100 cost 0;input a -7 90;").widest(0), 10);
        // ERROR of t: 5 (1000 + w) and 5000 and 25 together by 1000, up, and 5, and 1.
        String product = "format f step 10 most 99999999 cost 0;input a 0 1000;input b 0 1000;let t = a * b;answer t within 20;";
        due.is("by ERROR of an ANSWER", Due.with(product).widest(0), (14000 - 5000 - 25) / 5 - 1000);
        due.is("by ERROR of an ANSWER", Due.with(product).widest(1), (14000 - 5000 - 25) / 5 - 1000);
        // b - a goes up by a's lower end: 500 and w at most 900.
        due.is("by what is made of it", Due.with("format f step 1 most 900 cost 0;input a -400 0;input b 0 100;"
            + "let c = b - a;").widest(0), 400);
        due.is("another box stays as it is", Due.with("format f step 1 most 900 cost 0;input a 0 900;input b 0 100;").widest(1), 800);
        due.says("NONE when it does not PASS, or it is no input");
        due.is("widest(0), FAILS", Due.with(SUM).widest(0), NONE);
        due.is("widest(2), no input", passing().widest(2), NONE);
        due.is("widest(3), no input", passing().widest(3), NONE);
        for (int i : NO_NUMBERS) {
            due.is("widest(" + i + ")", passing().widest(i), NONE);
        }
        due.is("widest(0) without a CHOICE", Due.with(CLASH).widest(0), NONE);
        due.is("new widest(0)", new ShortEnough().widest(0), NONE);
    }

    private void blame() {
        promise(23);
        due.says("By how much the ERROR of an ANSWER would be less, had the GROUP of another NUMBER (FREE) the FORMAT of the least step (of like ones the first), all else as it is (below 0: it would be more)");
        ShortEnough x = Due.with(SUM + "answer s within 200;");
        x.choose(3, 1);
        due.is("blame(3, 0), it would be more", x.blame(3, 0), 56 - 61);
        due.is("blame(3, 1), of the same GROUP", x.blame(3, 1), 56 - 61);
        due.is("blame(2, 0)", x.blame(2, 0), 100 - 110);
        due.is("blame(3, 2)", x.blame(3, 2), 0);
        due.is("blame(2, 3), behind it", x.blame(2, 3), 0);
        due.is("blame(3, 3), as it is", x.blame(3, 3), 0);
        x.choose(2, 1);
        due.is("blame(3, 0), it would be less", x.blame(3, 0), 56 - 11);
        due.is("chosen(0) stays", x.chosen(0), 0);
        due.is("error(3) stays", x.error(3), 56);
        String like = "format h step 9 most 9999 cost 0;format f step 1 most 9999 cost 0;"
            + "format g step 1 most 9999 cost 0;input a 0 100;answer a within 4;";
        due.is("blame(0, 0)", Due.with(like).blame(0, 0), 4);
        due.is("f, the first, FAILS", Due.with(like.replace("f step 1 most 9999", "f step 1 most 99")).blame(0, 0), NOTHING);
        due.is("g, the second, FAILS", Due.with(like.replace("g step 1 most 9999", "g step 1 most 99")).blame(0, 0), 4);
        due.says("NOTHING when the CHOICE at hand does not PASS, or that one does not, it is no ANSWER, the GROUP is not FREE, or there is none such");
        due.is("blame(3, 0), FAILS", Due.with(SUM).blame(3, 0), NOTHING);
        due.is("blame(3, 3), FAILS, that one does not", Due.with(SUM).blame(3, 3), NOTHING);
        due.is("blame(3, 0), that one FAILS", Due.with(SUM + "fixed p long;answer s within 105;").blame(3, 0), NOTHING);
        due.is("blame(0, 3), no ANSWER", x.blame(0, 3), NOTHING);
        due.is("blame(1, 2), no ANSWER", x.blame(1, 2), NOTHING);
        due.is("blame(3, 3), not FREE", Due.with(SUM + "fixed p long;").blame(3, 3), NOTHING);
        due.is("blame(3, 1), not FREE by its GROUP", Due.with(SUM + "fixed p long;fixed a short;").blame(3, 1), NOTHING);
        for (int i : NO_NUMBERS) {
            due.is("blame(3, " + i + ")", x.blame(3, i), NOTHING);
            due.is("blame(" + i + ", 3)", x.blame(i, 3), NOTHING);
        }
        due.is("blame(0, 0) without a CHOICE", Due.with(CLASH).blame(0, 0), NOTHING);
        due.is("new blame(0, 0)", new ShortEnough().blame(0, 0), NOTHING);
    }
}
