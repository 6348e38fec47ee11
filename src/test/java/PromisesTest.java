import java.nio.ByteBuffer;

/** Each promise by answers that were reckoned by hand from the document. */
public final class PromisesTest {
    private static final Due DUE = new Due("PromisesTest");
    private static final long NOTHING = ShortEnough.NOTHING;
    private static final int NONE = ShortEnough.NONE;

    /** GROUPS: a b, s, p. CHOICES that PASS: 001 (cost 8, ERROR 56), 011 (12, 56), 101 (16, 61), 111 (12, 11). */
    private static final String SUM = "format short step 100 most 100000 cost 1;"
        + "format long step 10 most 1000000 cost 3; cast 2; input a 0 3000; input b -1000 2000;"
        + "let s = a + b; let p = s * 500; answer p within 80; group a b;";

    private static final String RANGES = "format f step 1 most 99999999 cost 0; input a -3000 2000;"
        + "input b -1000 5000; let p = a + b; let m = a - b; let t = a * b; let n = a min b;"
        + "let x = a max b; let c = 7 - a; let e = 3 * 500; let g = -3 * 500;"
        + "input w 10000000 10000000; let v = w * 100000; let y = v + 1; let z = y min 5;";

    private static final String CASTS = "format f step 100 most 99999999 cost 1;"
        + "format g step 30 most 99999999 cost 10; format h step 50 most 99999999 cost 100;"
        + "format k step 7 most 99999999 cost 500; input a 0 1000; input b -2000 0;"
        + "let p = a + b; let m = a - 45; let n = a min b; let t = a * b; let q = 60 max a;"
        + "let d = b * b; cast 3;";

    /** BY HALVES: all fail, a b, e s, a (stays), b, e (stays), s; with m then b s, b, s. */
    private static final String HALVES = "format c step 100 most 1000000 cost 1;"
        + "format d step 1 most 1000000 cost 5; format m step 40 most 1000000 cost 3; cast 0;"
        + "input a 0 10; input b 0 10; input e 0 10; let s = a + b; answer s within 60;";

    private static final String CLASH = "format p step 1 most 1000 cost 0;format q step 1 most 1000 cost 0;"
        + "input c 0 1;input a 0 1;input b 0 1;group a b;fixed a p;fixed b q;answer c within 9;";

    private static final String SIX = "format p step 10 most 1000 cost 2;format q step 1 most 1000 cost 7;"
        + "input a 0 1;input b 0 1;input c 0 1;input d 0 1;input e 0 1;input f 0 1;answer a within 4;";

    public static void main(String[] args) {
        newObject();
        feed();
        end();
        task();
        has();
        letter();
        format();
        number();
        told();
        range();
        uses();
        depth();
        chosen();
        choose();
        cost();
        fails();
        error();
        slack();
        widest();
        blame();
        cheapest();
        passing();
        halves();
        single();
        take();
        front();
        frontOfMany();
        least();
        certificate();
        check();
        checkGroups();
        checkHeld();
        trials();
        trial();
        keptNegative();
        seed();
        status();
        noChoice();
        DUE.end();
    }

    private static void newObject() {
        ShortEnough x = new ShortEnough();
        for (int what = 0; what < 7; what++) {
            DUE.is("new has(" + what + ")", x.has(what), 0);
        }
        DUE.is("new has(7)", x.has(7), 1);
        for (int what = 0; what < 5; what++) {
            DUE.is("new status(" + what + ")", x.status(what), 0);
        }
        DUE.is("new fault(0)", x.fault(0), 0);
        DUE.is("new fault(1)", x.fault(1), NONE);
        DUE.is("new broken(0)", x.broken(0), NONE);
        DUE.is("new chosen(0)", x.chosen(0), NONE);
        DUE.is("new passing()", x.passing(), NONE);
        DUE.is("new task()", x.task(), NONE);
    }

    private static void feed() {
        ShortEnough x = new ShortEnough();
        for (int n = 20; n <= 1200; n += 20) {
            DUE.is("feed to " + n, x.feed(-1, 0, 7, Integer.MAX_VALUE, Integer.MIN_VALUE), n);
        }
        DUE.is("feed above 1200", x.feed(0, 0, 0, 0, 0), NONE);
        DUE.is("status(0)", x.status(0), 1);
        DUE.is("end(1181)", x.end(1181), true);
        DUE.is("feed from 1181", x.feed(0, 0, 0, 0, 0), NONE);
        DUE.is("end(1180)", x.end(1180), true);
        DUE.is("feed from 1180", x.feed(0, 0, 0, 0, 0), 1200);
        DUE.is("end(0)", x.end(0), true);
        x.feed(0x66657374, 0x20666f72, 0x6d61743b, 0, 0);
        DUE.is("task of 'fest format;'", x.task(), NONE);
        DUE.is("the first byte is the highest", x.fault(1), 0);
        x.feed(0x63617374, 0x20353b63, 0x61737420, 0x373b0000, 0);
        DUE.is("end(14)", x.end(14), true);
        DUE.is("task of 'cast 5;cast 7;'", x.task(), NONE);
        DUE.is("fault(0)", x.fault(0), 4);
        DUE.is("fault(1)", x.fault(1), 14);
    }

    private static void end() {
        ShortEnough x = new ShortEnough();
        DUE.is("end(1) of none", x.end(1), false);
        DUE.is("end(0) of none", x.end(0), true);
        DUE.is("end(-1)", x.end(-1), false);
        DUE.is("status(0)", x.status(0), 2);
        x.feed(1, 2, 3, 4, 5);
        DUE.is("end(21)", x.end(21), false);
        DUE.is("end(20)", x.end(20), true);
        DUE.is("end(7)", x.end(7), true);
        DUE.is("end(8)", x.end(8), false);
        DUE.is("feed behind 7", x.feed(1, 2, 3, 4, 5), 27);
        DUE.is("status(0)", x.status(0), 4);
    }

    private static void task() {
        ShortEnough x = Due.with(SUM);
        DUE.is("the tape has gone", x.feed(0, 0, 0, 0, 0), 20);
        DUE.is("task refused", x.task(), NONE);
        DUE.is("the tape has gone", x.feed(0, 0, 0, 0, 0), 20);
        x.end(0);
        x.choose(3, 1);
        DUE.is("trials(1, 3)", x.trials(1, 3), 35);
        putCertificate(x, 80);
        DUE.is("check()", x.check(), true);
        DUE.is("task refused", Due.tell(x, "input"), NONE);
        DUE.is("status(1)", x.status(1), 2);
        DUE.is("chosen(3) stays", x.chosen(3), 1);
        DUE.is("broken(0) stays", x.broken(0), -2);
        DUE.is("cheapest stays", x.cheapest(NONE), 8);
        DUE.is("task()", Due.tell(x, SUM), 4);
        DUE.is("chosen(3) as at first", x.chosen(3), 0);
        DUE.is("broken(0), none read", x.broken(0), NONE);
        DUE.is("broken(1), none read", x.broken(1), NONE);
        DUE.is("the seed stays", x.has(7), 377401575);
        DUE.is("task()", Due.tell(x, HALVES), 4);
        DUE.is("searches are of the new TASK: a b s in m, e in c", x.cheapest(NONE), 10);
        DUE.is("halves are of the new TASK", x.halves(-2), 11);
    }

    private static void has() {
        ShortEnough x = Due.with(SUM + "fixed b long; answer p within 7; answer s within 8;");
        long[] want = {4, 2, 2, 2, 3, 2, 2, 1};
        for (int what = 0; what < want.length; what++) {
            DUE.is("has(" + what + ")", x.has(what), want[what]);
        }
        DUE.is("has(8)", x.has(8), NONE);
        DUE.is("has(-1)", x.has(-1), NONE);
        DUE.is("has(6) untold", Due.with(RANGES).has(6), 1);
        DUE.is("has(6), the last one", Due.with(SUM + "cast 7; cast 0;").has(6), 0);
    }

    private static void letter() {
        ShortEnough x = Due.with("format zyxabc step 1 most 1 cost 1;input m 0 0;");
        int[] want = {26, 25, 24, 1, 2, 3};
        for (int k = 0; k < 6; k++) {
            DUE.is("letter(0, true, " + k + ")", x.letter(0, true, k), want[k]);
            DUE.is("letter(0, false, " + k + ")", x.letter(0, false, k), k == 0 ? 13 : 0);
        }
        DUE.is("letter(0, true, 6)", x.letter(0, true, 6), NONE);
        DUE.is("letter(0, true, -1)", x.letter(0, true, -1), NONE);
        DUE.is("letter(1, true, 0)", x.letter(1, true, 0), NONE);
        DUE.is("letter(1, false, 0)", x.letter(1, false, 0), NONE);
        DUE.is("letter(-1, false, 0)", x.letter(-1, false, 0), NONE);
        DUE.is("letter(-1, true, 0)", x.letter(-1, true, 0), NONE);
    }

    private static void format() {
        ShortEnough x = Due.with(SUM);
        long[][] want = {{100, 100000, 1}, {10, 1000000, 3}};
        for (int f = 0; f < 2; f++) {
            for (int what = 0; what < 3; what++) {
                DUE.is("format(" + f + ", " + what + ")", x.format(f, what), want[f][what]);
            }
        }
        DUE.is("format(2, 0)", x.format(2, 0), NONE);
        DUE.is("format(-1, 0)", x.format(-1, 0), NONE);
        DUE.is("format(0, 3)", x.format(0, 3), NONE);
        DUE.is("format(0, -1)", x.format(0, -1), NONE);
    }

    private static void number() {
        ShortEnough x = Due.with(RANGES + "group z b; group c p; group z p; fixed e f; answer b within 5; answer b within 6;");
        int[] ops = {0, 0, 1, 2, 3, 4, 5, 2, 3, 3, 0, 3, 1, 4};
        int[] first = {-1, -1, 0, 0, 0, 0, 0, -1, -1, -1, -1, 10, 11, 12};
        int[] second = {-1, -1, 1, 1, 1, 1, 1, 0, -1, -1, -1, -1, -1, -1};
        int[] groups = {0, 1, 1, 2, 3, 4, 5, 1, 6, 7, 8, 9, 10, 1};
        for (int i = 0; i < ops.length; i++) {
            DUE.is("number(" + i + ", 0)", x.number(i, 0), ops[i]);
            DUE.is("number(" + i + ", 1)", x.number(i, 1), first[i]);
            DUE.is("number(" + i + ", 2)", x.number(i, 2), second[i]);
            DUE.is("number(" + i + ", 3)", x.number(i, 3), groups[i]);
            DUE.is("number(" + i + ", 4)", x.number(i, 4), i == 8 ? 0 : NONE);
            DUE.is("number(" + i + ", 5)", x.number(i, 5), i == 1 ? 6 : NONE);
        }
        DUE.is("number(14, 0)", x.number(14, 0), -2);
        DUE.is("number(-1, 0)", x.number(-1, 0), -2);
        DUE.is("number(0, 6)", x.number(0, 6), -2);
        DUE.is("number(0, -1)", x.number(0, -1), -2);
        ShortEnough y = Due.with(SUM + "fixed a long; fixed a short;");
        DUE.is("the last fixed counts", y.number(0, 4), 0);
        DUE.is("the other one of its GROUP is not fixed itself", y.number(1, 4), NONE);
    }

    private static void told() {
        ShortEnough x = Due.with(RANGES);
        DUE.is("told(0, 0)", x.told(0, 0), -3000);
        DUE.is("told(0, 1)", x.told(0, 1), 2000);
        DUE.is("told(2, 0)", x.told(2, 0), NOTHING);
        DUE.is("told(7, 0)", x.told(7, 0), 7);
        DUE.is("told(7, 1)", x.told(7, 1), NOTHING);
        DUE.is("told(9, 0)", x.told(9, 0), -3);
        DUE.is("told(9, 1)", x.told(9, 1), 500);
        DUE.is("told(9, 2)", x.told(9, 2), NOTHING);
        DUE.is("told(9, -1)", x.told(9, -1), NOTHING);
        DUE.is("told(14, 0)", x.told(14, 0), NOTHING);
        DUE.is("told(-1, 0)", x.told(-1, 0), NOTHING);
    }

    private static void range() {
        ShortEnough x = Due.with(RANGES);
        long[] least = {-3000, -1000, -4000, -8000, -15000, -3000, -1000, -1993, 2, -1,
            10000000, 1000000000, NOTHING, NOTHING};
        long[] greatest = {2000, 5000, 7000, 3000, 10000, 2000, 5000, 3007, 2, -1,
            10000000, 1000000000, NOTHING, NOTHING};
        for (int i = 0; i < least.length; i++) {
            DUE.is("range(" + i + ", false)", x.range(i, false), least[i]);
            DUE.is("range(" + i + ", true)", x.range(i, true), greatest[i]);
        }
        DUE.is("range(14, true)", x.range(14, true), NOTHING);
        DUE.is("range(-1, true)", x.range(-1, true), NOTHING);
        ShortEnough y = Due.with("format f step 1 most 9 cost 0;input a -10000000 10000000;let b = a * a;"
            + "let c = b * b;let d = c * c;let e = d * d;let g = e * e;let h = g - g;let i = a - a;");
        for (int i = 1; i < 7; i++) {
            DUE.is("range(" + i + ", true)", y.range(i, true), NOTHING);
        }
        DUE.is("range(7, false)", y.range(7, false), -20000000);
    }

    private static void uses() {
        ShortEnough x = Due.with(RANGES);
        DUE.is("uses(0)", x.uses(0), 0b11111100);
        DUE.is("uses(1)", x.uses(1), 0b01111100);
        DUE.is("uses(2)", x.uses(2), 0);
        DUE.is("uses(10)", x.uses(10), 0b11100000000000);
        DUE.is("uses(13)", x.uses(13), 0);
        DUE.is("uses(14)", x.uses(14), NONE);
        DUE.is("uses(-1)", x.uses(-1), NONE);
    }

    private static void depth() {
        ShortEnough x = Due.with(RANGES);
        int[] want = {0, 0, 1, 1, 1, 1, 1, 1, 1, 1, 0, 1, 2, 3};
        for (int i = 0; i < want.length; i++) {
            DUE.is("depth(" + i + ")", x.depth(i), want[i]);
        }
        DUE.is("depth(14)", x.depth(14), NONE);
        DUE.is("depth(-1)", x.depth(-1), NONE);
        ShortEnough y = Due.with("format f step 1 most 9 cost 0;input a 0 1;let b = a + a;let c = a + b;let d = c + a;");
        DUE.is("the deeper one counts", y.depth(3), 3);
    }

    private static void chosen() {
        ShortEnough x = Due.with(SUM + "fixed b long;");
        DUE.is("chosen(0), fixed by its GROUP", x.chosen(0), 1);
        DUE.is("chosen(1)", x.chosen(1), 1);
        DUE.is("chosen(2)", x.chosen(2), 0);
        DUE.is("chosen(4)", x.chosen(4), NONE);
        DUE.is("chosen(-1)", x.chosen(-1), NONE);
    }

    private static void choose() {
        ShortEnough x = Due.with(SUM + "fixed s long;");
        DUE.is("choose(1, 1)", x.choose(1, 1), 0);
        DUE.is("chosen(0)", x.chosen(0), 1);
        DUE.is("choose(0, 1)", x.choose(0, 1), 1);
        DUE.is("choose(0, 0)", x.choose(0, 0), 1);
        DUE.is("status(2)", x.status(2), 0);
        DUE.is("choose(2, 1), fixed", x.choose(2, 1), NONE);
        DUE.is("choose(0, 2)", x.choose(0, 2), NONE);
        DUE.is("choose(0, -1)", x.choose(0, -1), NONE);
        DUE.is("choose(4, 0)", x.choose(4, 0), NONE);
        DUE.is("choose(-1, 0)", x.choose(-1, 0), NONE);
        DUE.is("status(2)", x.status(2), 5);
        DUE.is("chosen(0)", x.chosen(0), 0);
    }

    private static ShortEnough chooseAll(String text, int... formats) {
        ShortEnough x = Due.with(text);
        for (int i = 0; i < formats.length; i++) {
            x.choose(i, formats[i]);
        }
        return x;
    }

    private static void cost() {
        ShortEnough x = chooseAll(CASTS, 0, 3, 2, 2, 2, 2, 1, 0);
        DUE.is("casts: p 2, m 1, n 2, t 2, q 1, d 2", x.casts(), 10);
        DUE.is("cost: f 2, g 10, h 400, k 500, casts 30", x.cost(), 942);
        x.choose(7, 3);
        DUE.is("casts", x.casts(), 8);
        DUE.is("cost", x.cost(), 942 - 1 + 500 - 6);
        DUE.is("cost of what FAILS", Due.with(SUM).cost(), 4);
    }

    private static void fails() {
        ShortEnough x = Due.with(SUM);
        DUE.is("fails()", x.fails(), 3);
        DUE.is("why()", x.why(), 2);
        x.choose(3, 1);
        DUE.is("fails()", x.fails(), -2);
        DUE.is("why()", x.why(), 0);
        String most = "format f step 10 most 1005 cost 0;format g step 10 most 1004 cost 0;"
            + "input a -1000 3;answer a within ";
        DUE.is("most just reached", Due.with(most + "5;").fails(), -2);
        DUE.is("ERROR too great", Due.with(most + "4;").why(), 2);
        ShortEnough y = Due.with(most + "4;");
        y.choose(0, 1);
        DUE.is("most asked ahead of ERROR", y.why(), 1);
        DUE.is("fails()", y.fails(), 0);
        ShortEnough z = Due.with(RANGES);
        DUE.is("fails at 10 to the 9", z.fails(), 11);
        DUE.is("why 1", z.why(), 1);
    }

    private static void error() {
        ShortEnough x = chooseAll(CASTS, 0, 3, 2, 2, 2, 2, 1, 0);
        long[] want = {50, 3, 78, 75, 50, 156, 65, 0};
        want[7] = (2000 * 53 * 2 + 53 * 53 + 999) / 1000 + 50 + 1;
        for (int i = 0; i < want.length; i++) {
            DUE.is("error(" + i + ")", x.error(i), want[i]);
        }
        x.choose(5, 3);
        DUE.is("error(5) with step 7", x.error(5), 114);
        x.choose(3, 1);
        DUE.is("error(3) with step 30", x.error(3), 80);
        x.choose(6, 0);
        DUE.is("error(6) with V that is CAST", x.error(6), 50);
        DUE.is("error(8)", x.error(8), NOTHING);
        DUE.is("error(-1)", x.error(-1), NOTHING);
        ShortEnough y = Due.with(SUM + "let e = a + a;");
        DUE.is("error(3) at which it FAILS", y.error(3), 101);
        DUE.is("error(4) behind it", y.error(4), NOTHING);
        DUE.is("error(2) ahead of it", y.error(2), 100);
    }

    private static void slack() {
        ShortEnough x = Due.with(SUM + "answer a within 50;");
        DUE.is("slack(3), FAILS", x.slack(3), NOTHING);
        x.choose(3, 1);
        DUE.is("slack(3)", x.slack(3), 24);
        DUE.is("slack(0)", x.slack(0), 0);
        DUE.is("slack(2), no ANSWER", x.slack(2), NOTHING);
        DUE.is("slack(4)", x.slack(4), NOTHING);
        DUE.is("slack(-1)", x.slack(-1), NOTHING);
    }

    private static void widest() {
        ShortEnough x = Due.with(SUM);
        DUE.is("widest(0), FAILS", x.widest(0), NONE);
        x.choose(3, 1);
        DUE.is("widest(0): s and 100 reach 100000", x.widest(0), 94900);
        DUE.is("widest(1)", x.widest(1), 94900);
        DUE.is("widest(2), no input", x.widest(2), NONE);
        DUE.is("widest(4)", x.widest(4), NONE);
        DUE.is("widest(-1)", x.widest(-1), NONE);
        DUE.is("range(0, true) stays", x.range(0, true), 3000);
        DUE.is("fails() stays", x.fails(), -2);
        String plain = "format f step 10 most 99999999 cost 0;input a -9999999 10000000;";
        DUE.is("widest at all", Due.with(plain).widest(0), 10000000);
        String tight = "format f step 10 most 1005 cost 0;input a -1000 3;";
        DUE.is("widest none", Due.with(tight).widest(0), 0);
        // ERROR of t: 5 (1000 + w) and 5000 and 25 together by 1000, up, and 5, and 1.
        String product = "format f step 10 most 99999999 cost 0;input a 0 1000;input b 0 1000;"
            + "let t = a * b;answer t within 20;";
        DUE.is("widest by ERROR", Due.with(product).widest(0), (14000 - 5000 - 25) / 5 - 1000);
    }

    private static void blame() {
        ShortEnough x = Due.with(SUM + "answer s within 200;");
        DUE.is("blame(3, 0), FAILS", x.blame(3, 0), NOTHING);
        x.choose(3, 1);
        DUE.is("blame(3, 0)", x.blame(3, 0), 56 - 61);
        DUE.is("blame(3, 1), of the same GROUP", x.blame(3, 1), 56 - 61);
        DUE.is("blame(3, 2)", x.blame(3, 2), 0);
        DUE.is("blame(3, 3)", x.blame(3, 3), 0);
        DUE.is("blame(2, 0)", x.blame(2, 0), 100 - 110);
        DUE.is("blame(2, 3)", x.blame(2, 3), 0);
        DUE.is("blame(0, 3), no ANSWER", x.blame(0, 3), NOTHING);
        DUE.is("blame(3, 4)", x.blame(3, 4), NOTHING);
        DUE.is("blame(4, 3)", x.blame(4, 3), NOTHING);
        DUE.is("blame(3, -1)", x.blame(3, -1), NOTHING);
        DUE.is("chosen(0) stays", x.chosen(0), 0);
        x.choose(2, 1);
        DUE.is("blame(3, 0)", x.blame(3, 0), 56 - 11);
        ShortEnough y = Due.with(SUM + "fixed p long; answer s within 105;");
        DUE.is("blame(3, 0), that one FAILS", y.blame(3, 0), NOTHING);
        DUE.is("blame(3, 3), not FREE", y.blame(3, 3), NOTHING);
        // Of like steps the first: f, whose most is too small.
        ShortEnough z = Due.with("format h step 9 most 9999 cost 0;format f step 1 most 1 cost 0;"
            + "format g step 1 most 9999 cost 0;input a 0 100;answer a within 4;");
        DUE.is("blame(0, 0), least step, first", z.blame(0, 0), NOTHING);
    }

    private static void cheapest() {
        ShortEnough x = Due.with(SUM);
        DUE.is("cheapest(NONE)", x.cheapest(NONE), 8);
        int[] want = {0, 0, 0, 1};
        for (int i = 0; i < want.length; i++) {
            DUE.is("cheapest(" + i + ")", x.cheapest(i), want[i]);
        }
        DUE.is("cheapest(4)", x.cheapest(4), NONE);
        DUE.is("cheapest(-2)", x.cheapest(-2), NONE);
        DUE.is("chosen(3) stays", x.chosen(3), 0);
        DUE.is("none PASSES", Due.with(SUM + "answer p within 10;").cheapest(NONE), NONE);
        DUE.is("none PASSES", Due.with(SUM + "answer p within 10;").cheapest(0), NONE);
        ShortEnough six = Due.with(SIX);
        DUE.is("six FREE GROUPS", six.cheapest(NONE), NONE);
        DUE.is("six FREE GROUPS", six.cheapest(0), NONE);
        DUE.is("five FREE GROUPS", Due.with(SIX + "group b c;").cheapest(NONE), 17);
        DUE.is("five FREE GROUPS", Due.with(SIX + "fixed b q;").cheapest(NONE), 22);
        // Like costs: a or b may be short, not both; the first by GROUPS has a 0, b 1.
        ShortEnough y = Due.with("format f step 10 most 9999 cost 1;format g step 1 most 9999 cost 2;cast 0;"
            + "input a 0 1;input b 0 1;let s = a + b;fixed s g;answer s within 9;");
        DUE.is("cheapest(NONE)", y.cheapest(NONE), 5);
        DUE.is("cheapest(0)", y.cheapest(0), 0);
        DUE.is("cheapest(1)", y.cheapest(1), 1);
    }

    private static void passing() {
        DUE.is("passing()", Due.with(SUM).passing(), 4);
        DUE.is("passing(), one fixed", Due.with(SUM + "fixed a short;").passing(), 2);
        DUE.is("passing(), all fixed", Due.with(SUM + "fixed a short;fixed s short;fixed p long;").passing(), 1);
        DUE.is("passing(), none", Due.with(SUM + "answer p within 10;").passing(), 0);
        DUE.is("passing(), six", Due.with(SIX).passing(), NONE);
        DUE.is("passing(), five", Due.with(SIX + "fixed b q;").passing(), 16);
        String four = "format a step 1 most 99 cost 0;format b step 1 most 99 cost 0;"
            + "format c step 1 most 99 cost 0;format d step 1 most 99 cost 0;"
            + "input e 0 9;input f 0 9;input g 0 9;input h 0 9;input i 0 9;";
        DUE.is("passing(), all of 1024", Due.with(four).passing(), 1024);
    }

    private static void halves() {
        ShortEnough x = Due.with(HALVES);
        DUE.is("halves(NONE)", x.halves(NONE), 12);
        DUE.is("halves(-2)", x.halves(-2), 11);
        int[] want = {0, 1, 0, 1};
        for (int i = 0; i < want.length; i++) {
            DUE.is("halves(" + i + ")", x.halves(i), want[i]);
        }
        DUE.is("halves(4)", x.halves(4), NONE);
        DUE.is("halves(-3)", x.halves(-3), NONE);
        DUE.is("chosen(1) stays", x.chosen(1), 0);
        ShortEnough y = Due.with(SUM);
        DUE.is("halves(-2): the smaller half first", y.halves(-2), 6);
        DUE.is("halves(NONE)", y.halves(NONE), 12);
        ShortEnough z = Due.with(SUM + "answer p within 10;");
        DUE.is("the first one FAILS", z.halves(NONE), NONE);
        DUE.is("the first one FAILS", z.halves(-2), NONE);
        DUE.is("the first one FAILS", z.halves(0), NONE);
        ShortEnough six = Due.with(SIX);
        // All six FAIL by a; a b c, d e f (stays); a, b c (stays).
        DUE.is("halves of six", six.halves(NONE), 17);
        DUE.is("halves of six", six.halves(-2), 6);
        DUE.is("halves(0)", six.halves(0), 1);
        DUE.is("halves(5)", six.halves(5), 0);
        ShortEnough fixed = Due.with(SUM + "fixed a short;fixed s short;fixed p long;");
        DUE.is("no FREE GROUP", fixed.halves(-2), 1);
        DUE.is("no FREE GROUP", fixed.halves(NONE), 8);
        DUE.is("no FREE GROUP", fixed.halves(3), 1);
    }

    private static void single() {
        ShortEnough x = Due.with(SUM);
        long[][] want = {{1, 0, -1, -1}, {2, 0, -1, -1}, {2, 1, 2, 0}, {2, 0, -1, -1}, {2, 2, 0, 0}};
        int[][] steps = {{}, {3, 1}, {2, 1}, {0, 1}, {2, 0}};
        for (int k = 0; k < want.length; k++) {
            if (steps[k].length == 2) {
                x.choose(steps[k][0], steps[k][1]);
            }
            for (int what = 0; what < 4; what++) {
                DUE.is("single(" + what + ") behind " + k, x.single(what), want[k][what]);
            }
        }
        DUE.is("single(4)", x.single(4), NONE);
        DUE.is("single(-1)", x.single(-1), NONE);
        DUE.is("chosen(0) stays", x.chosen(0), 1);
        // Like costs: GROUP of a (also b) ahead of c; FORMAT 1 ahead of 2.
        ShortEnough y = Due.with("format f step 1 most 99 cost 9;format g step 1 most 99 cost 5;"
            + "format h step 1 most 99 cost 5;cast 0;input z 0 0;input a 0 0;input c 0 0;fixed z f;");
        DUE.is("single(0)", y.single(0), 4);
        DUE.is("single(1)", y.single(1), 4);
        DUE.is("single(2)", y.single(2), 1);
        DUE.is("single(3)", y.single(3), 1);
    }

    private static void take() {
        ShortEnough x = Due.with(SUM);
        DUE.is("take(2), none costs less", x.take(2), NONE);
        DUE.is("take(0)", x.take(0), 8);
        DUE.is("chosen(3)", x.chosen(3), 1);
        DUE.is("chosen(0)", x.chosen(0), 0);
        DUE.is("take(1)", x.take(1), 12);
        DUE.is("chosen(0)", x.chosen(0), 1);
        x.choose(2, 0);
        DUE.is("cost()", x.cost(), 16);
        DUE.is("take(2)", x.take(2), 8);
        DUE.is("chosen(1)", x.chosen(1), 0);
        DUE.is("take(2)", x.take(2), NONE);
        DUE.is("take(3)", x.take(3), NONE);
        DUE.is("take(-1)", x.take(-1), NONE);
        DUE.is("status(2)", x.status(2), 4);
        DUE.is("cost()", x.cost(), 8);
        ShortEnough y = Due.with(SUM + "answer p within 10;");
        DUE.is("take(0), none PASSES", y.take(0), NONE);
        DUE.is("take(1), none PASSES", y.take(1), NONE);
        DUE.is("take(2), none PASSES", y.take(2), NONE);
        DUE.is("status(2)", y.status(2), 3);
        ShortEnough six = Due.with(SIX);
        DUE.is("take(0) of six", six.take(0), NONE);
        DUE.is("take(1) of six", six.take(1), 17);
    }

    private static void front() {
        ShortEnough x = Due.with(SUM + "answer s within 1000;");
        DUE.is("front(3, NONE, 0)", x.front(3, NONE, 0), 2);
        long[][] want = {{8, 56, 1}, {12, 11, 1}};
        for (int k = 0; k < 2; k++) {
            for (int what = 0; what < 3; what++) {
                DUE.is("front(3, " + k + ", " + what + ")", x.front(3, k, what), want[k][what]);
            }
        }
        DUE.is("front(3, 2, 0)", x.front(3, 2, 0), NOTHING);
        DUE.is("front(3, 0, 3)", x.front(3, 0, 3), NOTHING);
        DUE.is("front(3, 0, -1)", x.front(3, 0, -1), NOTHING);
        DUE.is("front(3, -2, 0)", x.front(3, -2, 0), NOTHING);
        DUE.is("front(3, NONE, 1)", x.front(3, NONE, 1), NOTHING);
        // ERRORS of s: 100 (8), 100 (12), 110 (16), 10 (12).
        DUE.is("front(2, NONE, 0)", x.front(2, NONE, 0), 2);
        DUE.is("front(2, 0, 1)", x.front(2, 0, 1), 100);
        DUE.is("front(2, 1, 1)", x.front(2, 1, 1), 10);
        DUE.is("front(0, NONE, 0), no ANSWER", x.front(0, NONE, 0), NOTHING);
        DUE.is("front(4, NONE, 0)", x.front(4, NONE, 0), NOTHING);
        DUE.is("front(-1, NONE, 0)", x.front(-1, NONE, 0), NOTHING);
        DUE.is("six FREE GROUPS", Due.with(SIX).front(0, NONE, 0), NOTHING);
        DUE.is("none PASSES", Due.with(SUM + "answer p within 10;").front(3, NONE, 0), 0);
        DUE.is("none PASSES", Due.with(SUM + "answer p within 10;").front(3, 0, 0), NOTHING);
    }

    /** a, b, c: how many are short tells cost and ERROR: 1, 3, 3, 1 CHOICES. */
    private static void frontOfMany() {
        ShortEnough x = Due.with("format f step 10 most 9999 cost 1;format g step 1 most 9999 cost 2;cast 0;"
            + "input a 0 1;input b 0 1;input c 0 1;let s = a + b;let t = s + c;fixed s g;fixed t g;answer t within 99;");
        long[][] want = {{7, 15, 1}, {8, 10, 3}, {9, 5, 3}, {10, 0, 1}};
        DUE.is("front(4, NONE, 0)", x.front(4, NONE, 0), 4);
        for (int k = 0; k < want.length; k++) {
            for (int what = 0; what < 3; what++) {
                DUE.is("front(4, " + k + ", " + what + ")", x.front(4, k, what), want[k][what]);
            }
        }
    }

    private static void least() {
        ShortEnough x = Due.with(SUM + "answer s within 1000;");
        DUE.is("least(3, 7)", x.least(3, 7), NOTHING);
        DUE.is("least(3, 8)", x.least(3, 8), 56);
        DUE.is("least(3, 11)", x.least(3, 11), 56);
        DUE.is("least(3, 12)", x.least(3, 12), 11);
        DUE.is("least(2, 8)", x.least(2, 8), 100);
        DUE.is("least(2, most)", x.least(2, Integer.MAX_VALUE), 10);
        DUE.is("least(3, -1)", x.least(3, -1), NOTHING);
        DUE.is("least(0, 99)", x.least(0, 99), NOTHING);
        DUE.is("least(4, 99)", x.least(4, 99), NOTHING);
        DUE.is("least(-1, 99)", x.least(-1, 99), NOTHING);
        DUE.is("six FREE GROUPS", Due.with(SIX).least(0, 999), NOTHING);
    }

    private static ByteBuffer rows(long[]... rows) {
        ByteBuffer bytes = ByteBuffer.allocate(25 * rows.length);
        for (long[] row : rows) {
            bytes.put((byte) row[0]).putLong(row[1]).putLong(row[2]).putLong(row[3]);
        }
        return bytes;
    }

    private static long[][] sumRows() {
        return new long[][] {{0, 0, 3000, 50}, {0, -1000, 2000, 50}, {0, -1000, 5000, 100}, {1, -500, 2500, 56}};
    }

    private static void putCertificate(ShortEnough x, long lastError) {
        long[][] rows = sumRows();
        rows[3][3] = lastError;
        Due.put(x, rows(rows).array());
    }

    private static void certificate() {
        ShortEnough x = Due.with(SUM);
        DUE.is("certificate(0), FAILS", x.certificate(0), NONE);
        x.choose(3, 1);
        byte[] want = rows(sumRows()).array();
        for (int i = 0; i < want.length; i++) {
            DUE.is("certificate(" + i + ")", x.certificate(i), want[i] & 255);
        }
        DUE.is("certificate(100)", x.certificate(100), NONE);
        DUE.is("certificate(-1)", x.certificate(-1), NONE);
    }

    private static void breaks(int number, int why, int row, int column, long value) {
        ShortEnough x = Due.with(SUM);
        long[][] rows = sumRows();
        rows[row][column] = value;
        Due.put(x, rows(rows).array());
        String call = "check() with " + value + " at " + row + ", " + column;
        DUE.is(call, x.check(), why == 0);
        DUE.is(call + ", broken(0)", x.broken(0), number);
        DUE.is(call + ", broken(1)", x.broken(1), why);
        DUE.is(call + ", status(3)", x.status(3), why == 0 ? 0 : 1);
        DUE.is(call + ", the tape has gone", x.end(1), false);
    }

    private static void check() {
        breaks(-2, 0, 0, 0, 0);
        breaks(-2, 0, 3, 1, -501);
        breaks(-2, 0, 3, 2, 2501);
        breaks(-2, 0, 3, 3, 80);
        breaks(3, 1, 3, 0, 2);
        breaks(3, 1, 3, 0, 255);
        breaks(3, 4, 3, 0, 0);
        breaks(3, 2, 3, 1, -499);
        breaks(3, 3, 3, 2, 2499);
        breaks(3, 4, 3, 3, 55);
        breaks(3, 4, 3, 3, -1);
        breaks(3, 6, 3, 3, 81);
        breaks(3, 5, 3, 1, -999945);
        breaks(-2, 0, 3, 1, -999944);
        breaks(0, 2, 0, 1, 1);
        breaks(0, 3, 0, 2, 2999);
        breaks(0, 4, 0, 3, 49);
        breaks(2, 4, 0, 3, 51);
        breaks(2, 2, 0, 1, -1);
        breaks(2, 3, 0, 2, 99950);
        breaks(0, 5, 0, 2, 99951);
        breaks(3, 4, 2, 3, 101);
        ShortEnough x = Due.with(SUM);
        DUE.is("broken(2)", x.broken(2), NONE);
        for (int length : new int[] {0, 99, 101}) {
            byte[] bytes = new byte[length];
            System.arraycopy(rows(sumRows()).array(), 0, bytes, 0, Math.min(100, length));
            Due.put(x, bytes);
            DUE.is("check() of " + length, x.check(), false);
            DUE.is("broken(0) of " + length, x.broken(0), NONE);
            DUE.is("broken(1) of " + length, x.broken(1), NONE);
            putCertificate(x, 56);
            DUE.is("check()", x.check(), true);
            DUE.is("broken(-1)", x.broken(-1), NONE);
        }
        DUE.is("status(3)", x.status(3), 3);
        DUE.is("the CHOICE at hand stays", x.chosen(3), 0);
        ShortEnough none = new ShortEnough();
        DUE.is("check() without a TASK", none.check(), false);
        DUE.is("status(3)", none.status(3), 1);
        DUE.is("broken(0)", none.broken(0), NONE);
    }

    private static void checkGroups() {
        ShortEnough x = Due.with(SUM);
        long[][] rows = sumRows();
        rows[1][0] = 1;
        Due.put(x, rows(rows).array());
        DUE.is("unlike FORMATS in a GROUP", x.check(), false);
        DUE.is("broken(0)", x.broken(0), 1);
        DUE.is("broken(1)", x.broken(1), 1);
        ShortEnough y = Due.with(SUM + "fixed b long;");
        Due.put(y, rows(sumRows()).array());
        DUE.is("not as a later one is fixed", y.check(), false);
        DUE.is("broken(0)", y.broken(0), 0);
        DUE.is("broken(1)", y.broken(1), 1);
    }

    /** Numbers beyond 10 to the 12 are held there; the least is looked at first. */
    private static void checkHeld() {
        breaks(0, 5, 0, 1, Long.MIN_VALUE);
        breaks(0, 5, 0, 2, Long.MAX_VALUE);
        breaks(0, 5, 0, 3, Long.MAX_VALUE);
        breaks(0, 4, 0, 3, Long.MIN_VALUE);
        breaks(0, 2, 0, 1, Long.MAX_VALUE);
        breaks(0, 3, 0, 2, Long.MIN_VALUE);
        ShortEnough x = Due.with(SUM);
        long[][] rows = {{0, 0, 3000, 60}, {0, -1000, 2000, 50}, {0, -1000, 5000, 110}, {1, -500, 2500, 61}};
        Due.put(x, rows(rows).array());
        DUE.is("by what it says itself", x.check(), true);
        rows[3][3] = 60;
        Due.put(x, rows(rows).array());
        DUE.is("by what it says itself", x.check(), false);
        DUE.is("broken(1)", x.broken(1), 4);
    }

    /** The seed becomes 1103527590, 377401575, 662824084, 1147902781: a 1542, b -473; a 926, b 604. */
    private static void trials() {
        ShortEnough x = Due.with(SUM);
        DUE.is("trials(1, 3), FAILS", x.trials(1, 3), NONE);
        x.choose(3, 1);
        DUE.is("trials(0, 3)", x.trials(0, 3), NONE);
        DUE.is("trials(41, 3)", x.trials(41, 3), NONE);
        DUE.is("trials(1, 4)", x.trials(1, 4), NONE);
        DUE.is("trials(1, -1)", x.trials(1, -1), NONE);
        DUE.is("status(4)", x.status(4), 5);
        DUE.is("has(7)", x.has(7), 1);
        DUE.is("trials(1, 3): 535 and 500", x.trials(1, 3), 35);
        DUE.is("has(7)", x.has(7), 377401575);
        DUE.is("trials(1, 0): 926 and 900", x.trials(1, 0), 26);
        DUE.is("has(7)", x.has(7), 1147902781);
        x.seed(1);
        DUE.is("trials(2, 0): 42, 26", x.trials(2, 0), 42);
        x.seed(1);
        DUE.is("trials(2, 2): 1069, 1000; 1530, 1500", x.trials(2, 2), 69);
        DUE.is("has(7)", x.has(7), 1147902781);
        DUE.is("trials(40, 3) within ERROR", x.trials(40, 3) <= 56, true);
        DUE.is("status(4)", x.status(4), 5);
    }

    private static void trial() {
        ShortEnough x = Due.with(SUM);
        DUE.is("trial(0, false), FAILS", x.trial(0, false), NOTHING);
        x.choose(3, 1);
        long[] exact = {1542, -473, 1069, 535};
        long[] kept = {1500, -500, 1000, 500};
        for (int i = 0; i < 4; i++) {
            DUE.is("trial(" + i + ", false)", x.trial(i, false), exact[i]);
            DUE.is("trial(" + i + ", true)", x.trial(i, true), kept[i]);
        }
        DUE.is("has(7)", x.has(7), 1);
        DUE.is("trial(4, false)", x.trial(4, false), NOTHING);
        DUE.is("trial(-1, true)", x.trial(-1, true), NOTHING);
        DUE.is("status(4)", x.status(4), 0);
    }

    /** Of two the greater multiple: -50 to step 100 is 0; 45 by 1000 of 1000 to step 10 is 50. */
    private static void keptNegative() {
        ShortEnough x = Due.with("format f step 100 most 99999 cost 0;format g step 10 most 99999 cost 0;"
            + "input a -50 -50;input b -51 -51;let c = a - 60;let d = b max -50;let t = 1450 * 100;"
            + "let u = -1450 * 100;let v = 1050 * 50;let w = b min a;fixed t g;fixed u g;fixed v g;fixed c g;");
        DUE.is("fails()", x.fails(), -2);
        long[] exact = {-50, -51, -110, -50, 145, -145, 53, -51};
        long[] kept = {0, -100, -60, 0, 150, -140, 50, -100};
        for (int i = 0; i < exact.length; i++) {
            DUE.is("trial(" + i + ", false)", x.trial(i, false), exact[i]);
            DUE.is("trial(" + i + ", true)", x.trial(i, true), kept[i]);
        }
    }

    private static void seed() {
        ShortEnough x = new ShortEnough();
        DUE.is("seed(-1)", x.seed(-1), false);
        DUE.is("seed(least)", x.seed(Integer.MIN_VALUE), false);
        DUE.is("status(4)", x.status(4), 2);
        DUE.is("has(7)", x.has(7), 1);
        DUE.is("seed(0)", x.seed(0), true);
        DUE.is("has(7)", x.has(7), 0);
        DUE.is("seed(most)", x.seed(Integer.MAX_VALUE), true);
        DUE.is("has(7)", x.has(7), Integer.MAX_VALUE);
        Due.tell(x, "format f step 1 most 99 cost 0;input a 5 14;");
        // 1103515245 times (2 to the 31, less 1) and 12345, mod 2 to the 31: 12345 less 1103515245.
        long next = 12345L - 1103515245L + (1L << 31);
        DUE.is("trial(0, false)", x.trial(0, false), 5 + next * 10 / (1L << 31));
        DUE.is("trials(1, 0)", x.trials(1, 0), 0);
        DUE.is("has(7)", x.has(7), next);
    }

    private static void status() {
        ShortEnough x = new ShortEnough();
        x.end(5);
        x.task();
        x.task();
        x.take(0);
        x.choose(0, 0);
        x.take(7);
        x.check();
        x.check();
        x.check();
        x.check();
        x.seed(-5);
        x.trials(1, 0);
        x.trials(1, 0);
        x.trials(1, 0);
        x.trials(1, 0);
        long[] want = {1, 2, 3, 4, 5};
        for (int what = 0; what < 5; what++) {
            DUE.is("status(" + what + ")", x.status(what), want[what]);
        }
        DUE.is("status(5)", x.status(5), NONE);
        DUE.is("status(-1)", x.status(-1), NONE);
    }

    /** A GROUP with fixed ones of unlike FORMATS: a TASK, but no CHOICE. */
    private static void noChoice() {
        ShortEnough x = Due.with(CLASH);
        DUE.is("has(0)", x.has(0), 3);
        DUE.is("has(4)", x.has(4), 2);
        DUE.is("has(5)", x.has(5), 1);
        DUE.is("range(0, true)", x.range(0, true), 1);
        DUE.is("chosen(0)", x.chosen(0), NONE);
        DUE.is("choose(0, 1)", x.choose(0, 1), NONE);
        DUE.is("cost()", x.cost(), NONE);
        DUE.is("casts()", x.casts(), NONE);
        DUE.is("fails()", x.fails(), NONE);
        DUE.is("why()", x.why(), NONE);
        DUE.is("error(0)", x.error(0), NOTHING);
        DUE.is("slack(0)", x.slack(0), NOTHING);
        DUE.is("widest(0)", x.widest(0), NONE);
        DUE.is("blame(0, 0)", x.blame(0, 0), NOTHING);
        DUE.is("cheapest(NONE)", x.cheapest(NONE), NONE);
        DUE.is("passing()", x.passing(), 0);
        DUE.is("halves(NONE)", x.halves(NONE), NONE);
        DUE.is("single(0)", x.single(0), NONE);
        for (int what = 0; what < 3; what++) {
            DUE.is("take(" + what + ")", x.take(what), NONE);
        }
        DUE.is("status(2)", x.status(2), 4);
        DUE.is("front(0, NONE, 0)", x.front(0, NONE, 0), 0);
        DUE.is("least(0, 9)", x.least(0, 9), NOTHING);
        DUE.is("certificate(0)", x.certificate(0), NONE);
        DUE.is("trial(0, true)", x.trial(0, true), NOTHING);
        DUE.is("trials(1, 0)", x.trials(1, 0), NONE);
        Due.put(x, rows(new long[] {1, 0, 1, 0}, new long[] {0, 0, 1, 0}, new long[] {0, 0, 1, 0}).array());
        DUE.is("check()", x.check(), false);
        DUE.is("broken(0)", x.broken(0), 1);
        DUE.is("broken(1)", x.broken(1), 1);
    }
}
