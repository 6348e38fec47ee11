/** Promises 4, 5: texts, each with its FAULT and place. */
public final class FaultTest {
    private static final String F = "format f step 1 most 9 cost 0;";
    private static final String A = "input a 1 2;";
    private static final Due DUE = new Due("FaultTest");

    private static void at(String text, int fault, int place) {
        ShortEnough x = new ShortEnough();
        int got = Due.tell(x, text);
        DUE.is("task() of " + text, got < 0, fault != 0);
        DUE.is("fault(0) of " + text, x.fault(0), fault);
        DUE.is("fault(1) of " + text, x.fault(1), place);
        DUE.is("status(1) of " + text, x.status(1), fault == 0 ? 0 : 1);
    }

    /** The FAULT's place is told by a ^ in the text, which is taken out. */
    private static void at(int fault, String marked) {
        int place = marked.indexOf('^');
        at(marked.substring(0, place) + marked.substring(place + 1), fault, place);
    }

    private static void right(String text) {
        at(text, 0, -1);
    }

    public static void main(String[] args) {
        right(F + A);
        right("\n format\nf  step 1\nmost 9 cost 0 ;input a 1 2 \n;\n ");
        right("format f step 00000001 most 99999999 cost 999;input a - 10000000 10000000;");
        right("format f step 1000000 most 1 cost 0;input a -0 0;let b=a-1000000;let c=-1000000--1;");
        right(F + A + "let b = 5 min-5;let c = a max b;let d = a*b;let e = 1 + 2;cast 0;cast 999;");
        right(F + A + "let abcdef=a+a;let mi=a+a;let steps=a+a;let lets=a+a;group a mi;group mi a;");
        right(F + A + "fixed a f;fixed a f;answer a within 0;answer a within 1000000;");
        right(A + F);
        words();
        numbers();
        names();
        limits();
        order();
        DUE.end();
    }

    private static void words() {
        at(1, "^;");
        at(1, F + "^;" + A);
        at(1, "^Format f step 1 most 9 cost 0;");
        at(1, "^step f step 1 most 9 cost 0;");
        at(1, "^formats f");
        at(1, "format^");
        at(1, "format   ^");
        at(1, "format ^1 step 1");
        at(1, "format ^cost step 1");
        at(1, "format ^abcdefg step 1");
        at(1, "format f^1 step 1");
        at(1, "format f ^most 1");
        at(1, "format f ^steps 1");
        at(1, "format f step^1");
        at(1, "format f step ^-1");
        at(1, "format f step ^x");
        at(1, "format f step ^000000001");
        at(1, "format f step 1^most 9");
        at(1, "format f step 1^\tmost 9");
        at(1, "format f step 1^\r\nmost 9");
        at(1, "format f step 1 most 9 cost 0 ^cost 0;");
        at(1, "format f step 1 most 9 cost 0 ^input a 1 2;");
        at(1, "input a 1 ^;");
        at(1, "input a - ^- 1 2;");
        at(1, "input a -^x 2;");
        at(1, "input a - ^");
        at(1, "input a 1 -^123456789;");
        at(1, A + "let b ^a + a;");
        at(1, A + "let b = a ^a;");
        at(1, A + "let b = a ^5;");
        at(1, A + "let b = a ^/ a;");
        at(1, A + "let b = a ^step a;");
        at(1, A + "let b = a min^5;");
        at(1, A + "let b = 5^min 5;");
        at(1, A + "let b = a + ^min;");
        at(1, A + "let b = a + ^+ 5;");
        at(1, A + "let b = a + a ^+ a;");
        at(1, A + "let b = ^= a;");
        at(1, A + "group a ^;");
        at(1, A + "group a ^group;");
        at(1, A + "group ^5 a;");
        at(1, A + "fixed a ^5;");
        at(1, A + "fixed a ^step;");
        at(1, A + "answer a ^5;");
        at(1, A + "answer a within ^-5;");
        at(1, A + "answer a within 5^");
        at(1, A + "^" + (char) 233 + ";");
        at(1, A + "^" + (char) 0);
        at(1, A + "let b^" + (char) 128 + " = a + a;");
    }

    private static void numbers() {
        at(2, "format f step ^0 most 9 cost 0;");
        at(2, "format f step ^1000001 most 9 cost 0;");
        at(2, "format f step 1 most ^0 cost 0;");
        at(1, "format f step 1 most ^1000000000 cost 0;");
        at(2, "format f step 1 most 9 cost ^1000;");
        at(2, "cast ^1000;");
        at(2, "input a ^10000001 99999999;");
        at(2, "input a ^-10000001 0;");
        at(2, "input a ^ -  10000001 0;".replace("^ ", " ^"));
        at(2, "input a 0 ^10000001;");
        at(2, "input a 5 ^4;");
        at(2, "input a 5 ^-6;");
        at(2, "input a -5 ^- 6;");
        at(2, A + "let b = ^1000001 + 1;");
        at(2, A + "let b = ^-1000001 + 1;");
        at(2, A + "let b = a - ^-1000001;");
        at(2, A + "let b = a -^1000001;");
        at(2, A + "answer a within ^1000001;");
        at(2, "input a 5 ^4x");
        at(2, "cast ^1000x");
    }

    private static void names() {
        at(3, F + "format ^f step 0");
        at(3, A + "format ^a step 0");
        at(3, F + "input ^f 1 2;");
        at(3, A + "input ^a 1 2;");
        at(3, A + "let ^a = a + a;");
        at(3, A + "let b = ^b + a;");
        at(3, A + "let b = a + ^b;");
        at(3, A + "let b = a + ^c;");
        at(3, F + A + "let b = a + ^f;");
        at(3, F + A + "fixed ^f f;");
        at(3, F + A + "fixed ^b f;");
        at(3, F + A + "fixed a ^a;");
        at(3, F + A + "fixed a ^g;");
        at(3, A + "group a ^a;");
        at(3, A + "group ^b ^a;".replace("^a", "a"));
        at(3, F + A + "group a ^f;");
        at(3, F + A + "answer ^f within 1;");
        at(3, A + "answer ^b");
        at(3, A + "let b = ^aa + a;");
        at(3, A + "fixed a ^f;" + F);
        at(3, A + "let ^a1 = a + a;");
    }

    private static void limits() {
        String formats = "format a step 1 most 1 cost 1;format b step 1 most 1 cost 1;"
            + "format c step 1 most 1 cost 1;format d step 1 most 1 cost 1;";
        at(4, formats + "^");
        at(4, formats + " ^format a");
        at(1, formats + " ^formal a");
        StringBuilder inputs = new StringBuilder();
        for (char c = 'a'; c < 'o'; c++) {
            inputs.append("input ").append(c).append(" 1 2;");
        }
        at(4, inputs + "^");
        right(inputs + "format x step 1 most 1 cost 1;");
        at(4, inputs + "^input a 5 4;");
        at(4, inputs + "\n^let x = a + a;");
        right(inputs + F.replace(" f ", " x ") + "cast 1;");
        at(4, F + "^");
        at(4, F + "  ^");
        at(4, "^");
        at(4, " \n^");
        at(4, "cast 5;^");
        at(1, "format f step 1 most 9 cost 0^");
        String casts = "cast 1;".repeat(38);
        right(F + A + casts);
        right(F + A + casts + " \n ");
        at(4, F + A + casts + "^cast 1;");
        at(4, F + A + casts + " ^format");
        at(4, F + A + casts + " ^let");
        at(1, F + A + casts + " ^cost");
        at(1, F + A + casts + "^;");
        at(1, F + A + casts + "^castcast");
        at(1, F + A + casts + "^7");
    }

    /** The latest task() counts, and a FAULT changes nothing else. */
    private static void order() {
        ShortEnough x = new ShortEnough();
        DUE.is("fault(0) ahead", x.fault(0), 0);
        DUE.is("fault(1) ahead", x.fault(1), -1);
        DUE.is("fault(2)", x.fault(2), -1);
        DUE.is("fault(-1)", x.fault(-1), -1);
        DUE.is("task()", Due.tell(x, F + A), 1);
        DUE.is("task()", Due.tell(x, F + A + "let b = a + c;"), -1);
        DUE.is("fault(0)", x.fault(0), 3);
        DUE.is("fault(1)", x.fault(1), 54);
        DUE.is("fault(2)", x.fault(2), -1);
        DUE.is("has(0)", x.has(0), 1);
        DUE.is("letter(0, false, 0)", x.letter(0, false, 0), 1);
        DUE.is("task()", Due.tell(x, F + A + "let b = a + a;"), 2);
        DUE.is("fault(0)", x.fault(0), 0);
        DUE.is("fault(1)", x.fault(1), -1);
        DUE.is("status(1)", x.status(1), 1);
    }
}
