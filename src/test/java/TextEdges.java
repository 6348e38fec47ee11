import java.util.List;

/** Terms I: the bounds of a TASK's text, each FAULT and its place. */
final class TextEdges {
    private static final String F = "format f step 1 most 9 cost 0;";
    private static final String A = "input a 1 2;";
    private static final List<String> OWN = List.of("format", "step", "most", "cost", "cast", "input", "let",
        "min", "max", "fixed", "group", "answer", "within");
    /** Every kind of STATEMENT, a token each; those that may touch others do. */
    private static final String[] TOKENS = {"format", "f", "step", "1", "most", "9", "cost", "0", ";",
        "cast", "7", ";", "input", "a", "-", "1", "2", ";", "input", "b", "0", "-", "0", ";",
        "let", "c", "=", "a", "min", "-", "5", ";", "let", "d", "=", "-", "5", "-", "c", ";",
        "fixed", "a", "f", ";", "group", "a", "b", ";", "answer", "c", "within", "3", ";"};

    private final EdgesTest.Says due;

    TextEdges(EdgesTest.Says due) {
        this.due = due;
    }

    void run() {
        shapes();
        values();
        formats();
        numbers();
        others();
        names();
        blanks();
        order();
        firstFault();
        tooSoon();
        otherFaults();
    }

    private ShortEnough right(String text) {
        ShortEnough x = new ShortEnough();
        int got = Due.tell(x, text);
        due.is("task() of " + text, got >= 1, true);
        due.is("fault(0) of " + text, x.fault(0), 0);
        due.is("fault(1) of " + text, x.fault(1), -1);
        due.is("status(1) of " + text, x.status(1), 0);
        due.is("has(0) of " + text, x.has(0), got);
        return x;
    }

    private void wrong(String text, int fault, int place) {
        ShortEnough x = new ShortEnough();
        due.is("task() of " + text, Due.tell(x, text), -1);
        due.is("fault(0) of " + text, x.fault(0), fault);
        due.is("fault(1) of " + text, x.fault(1), place);
        due.is("status(1) of " + text, x.status(1), 1);
        due.is("has(0) of " + text, x.has(0), 0);
    }

    /** The FAULT's place is told by a ^ in the text, which is taken out. */
    private void at(int fault, String marked) {
        int place = marked.indexOf('^');
        wrong(marked.substring(0, place) + marked.substring(place + 1), fault, place);
    }

    private static String formatsUpTo(int many) {
        StringBuilder text = new StringBuilder();
        for (int f = 0; f < many; f++) {
            text.append("format f").append((char) ('a' + f)).append(" step 1 most 9 cost ").append(f).append(';');
        }
        return text.toString();
    }

    private static String inputsUpTo(int many) {
        StringBuilder text = new StringBuilder();
        for (int i = 0; i < many; i++) {
            text.append("input n").append((char) ('a' + i)).append(" 1 2;");
        }
        return text.toString();
    }

    private void shapes() {
        due.says("A TASK is a text: { STATEMENT ; }");
        right(F + A);
        at(1, F + "^;" + A);
        at(1, F + A + "^;");
        at(1, "^;" + F + A);
        at(1, "format f step 1 most 9 cost 0 ^input a 1 2;");
        at(1, F + "input a 1 2^");
        at(1, F + "input a 1 2^,");
        due.says("STATEMENTS: format NAME step N most N cost N");
        at(1, "format ^step 1 most 9 cost 0;");
        at(1, "format f ^1 most 9 cost 0;");
        at(1, "format f ^most 9 step 1 cost 0;");
        at(1, "format f step 1 ^cost 0 most 9;");
        at(1, "format f step 1 ^9 cost 0;");
        at(1, "format f step 1 most 9 ^0;");
        at(1, "format f step ^most 9 cost 0;");
        at(1, "format f step 1 most ^cost 0;");
        at(1, "format f step 1 most 9 cost ^;");
        at(1, "format f step 1 most 9^;");
        at(1, "format f step ^-1 most 9 cost 0;");
        at(1, "format f step 1 most ^-9 cost 0;");
        at(1, "format f step 1 most 9 cost ^-0;");
        due.says("cast N");
        at(1, "cast^;");
        at(1, "cast ^a;");
        at(1, "cast ^-1;");
        at(1, "cast 1 ^1;");
        due.says("input NAME V V");
        at(1, "input ^1 2;");
        at(1, "input a^;");
        at(1, "input a 1^;");
        at(1, "input a 1 2 ^3;");
        at(1, "input a ^b 2;");
        at(1, A + "input b 1 ^a;");
        at(1, "input a ^= 1 2;");
        due.says("let NAME = WHAT OP WHAT");
        at(1, A + "let ^= a + a;");
        at(1, A + "let b ^a + a;");
        at(1, A + "let b ^+ a + a;");
        at(1, A + "let b = ^+ a;");
        at(1, A + "let b = ^= a;");
        at(1, A + "let b = a ^a;");
        at(1, A + "let b = a ^5;");
        at(1, A + "let b = a^;");
        at(1, A + "let b = a + ^;");
        at(1, A + "let b = a + a ^+ a;");
        due.says("fixed NAME NAME");
        at(1, F + A + "fixed ^;");
        at(1, F + A + "fixed a^;");
        at(1, F + A + "fixed a ^= f;");
        at(1, F + A + "fixed ^5 f;");
        at(1, F + A + "fixed a ^5;");
        at(1, F + A + "fixed a f ^f;");
        due.says("group NAME NAME");
        at(1, F + A + "group ^;");
        at(1, F + A + "group a^;");
        at(1, F + A + "group ^5 a;");
        at(1, F + A + "group a ^5;");
        at(1, F + inputsUpTo(3) + "group na nb ^nc;");
        due.says("answer NAME within N");
        at(1, F + A + "answer ^within 5;");
        at(1, F + A + "answer ^5 within 5;");
        at(1, F + A + "answer a ^5;");
        at(1, F + A + "answer a ^cost 5;");
        at(1, F + A + "answer a within^;");
        at(1, F + A + "answer a within ^-5;");
        at(1, F + A + "answer a within ^a;");
        at(1, F + A + "answer a within 5 ^5;");
    }

    private void values() {
        due.says("V: N, or - N");
        ShortEnough x = right(F + "input a -2 -\n1;input b - 1 00;let c = -3--4;let d = a - - 5;let e = a -5;");
        long[][] told = {{-2, -1}, {-1, 0}, {-3, -4}, {ShortEnough.NOTHING, -5}, {ShortEnough.NOTHING, 5}};
        for (int i = 0; i < told.length; i++) {
            due.is("told(" + i + ", 0)", x.told(i, 0), told[i][0]);
            due.is("told(" + i + ", 1)", x.told(i, 1), told[i][1]);
            due.is("number(" + i + ", 0)", x.number(i, 0), i < 2 ? 0 : 2);
        }
        at(1, "input a ^+1 2;");
        at(1, "input a - ^- 1 2;");
        at(1, "input a -^a 2;");
        at(1, A + "let b = a - - ^- 5;");
        due.says("WHAT: V, NAME");
        at(1, A + "let b = - ^a + 1;");
        at(1, A + "let b = ^(a) + 1;");
        at(1, A + "let b = a + - ^a;");
        ShortEnough y = right(F + "let a = 1 + 2;let b = a + 3;let c = 4 + a;");
        due.is("told(0, 1)", y.told(0, 1), 2);
        due.is("number(1, 1)", y.number(1, 1), 0);
        due.is("told(1, 1)", y.told(1, 1), 3);
        due.is("told(2, 0)", y.told(2, 0), 4);
        due.is("number(2, 2)", y.number(2, 2), 0);
        due.says("OP: + - * min max");
        String[] ops = {"+", "-", "*", "min", "max"};
        for (int k = 0; k < ops.length; k++) {
            due.is("number(1, 0) of " + ops[k], right(F + A + "let b = a " + ops[k] + " a;").number(1, 0), k + 1);
        }
        for (String op : new String[] {"/", "%", "=", ",", "step", "cost", "mi", "maxx"}) {
            at(1, A + "let b = a ^" + op + " a;");
        }
    }

    private void formats() {
        due.says("a FORMAT (4 at most, numbered from 0 on");
        ShortEnough x = right(formatsUpTo(4) + A);
        due.is("has(1)", x.has(1), 4);
        for (int f = 0; f < 4; f++) {
            due.is("letter(" + f + ", true, 1)", x.letter(f, true, 1), f + 1);
            due.is("format(" + f + ", 2)", x.format(f, 2), f);
        }
        at(4, formatsUpTo(4) + "^format fe step 1 most 9 cost 0;" + A);
        due.says("step 1 .. 1000000");
        due.is("format(0, 0)", right("format f step 1 most 9 cost 0;" + A).format(0, 0), 1);
        due.is("format(0, 0)", right("format f step 1000000 most 9 cost 0;" + A).format(0, 0), 1000000);
        at(2, "format f step ^0 most 9 cost 0;" + A);
        at(2, "format f step ^1000001 most 9 cost 0;" + A);
        at(2, "format f step ^99999999 most 9 cost 0;" + A);
        due.says("most 1 .. 1000000000");
        due.is("format(0, 1)", right("format f step 1 most 1 cost 0;" + A).format(0, 1), 1);
        due.is("format(0, 1)", right("format f step 1 most 99999999 cost 0;" + A).format(0, 1), 99999999);
        at(2, "format f step 1 most ^0 cost 0;" + A);
        at(2, "format f step 1 most ^00000000 cost 0;" + A);
        at(1, "format f step 1 most ^1000000000 cost 0;" + A);
        at(1, "format f step 1 most ^1000000001 cost 0;" + A);
        due.says("cost 0 .. 999)");
        due.is("format(0, 2)", right("format f step 1 most 9 cost 0;" + A).format(0, 2), 0);
        due.is("format(0, 2)", right("format f step 1 most 9 cost 999;" + A).format(0, 2), 999);
        at(2, "format f step 1 most 9 cost ^1000;" + A);
    }

    private void numbers() {
        due.says("a NUMBER (14 at most, together, from 0 on, as told)");
        due.is("has(0) of 14 inputs", right(F + inputsUpTo(14)).has(0), 14);
        ShortEnough x = right(F + "let z = 1 + 1;" + inputsUpTo(12) + "let y = z + na;");
        due.is("has(0) of 12 inputs, 2 lets", x.has(0), 14);
        due.is("has(2)", x.has(2), 12);
        due.is("letter(0, false, 0)", x.letter(0, false, 0), 26);
        due.is("letter(12, false, 1)", x.letter(12, false, 1), 12);
        due.is("letter(13, false, 0)", x.letter(13, false, 0), 25);
        at(4, F + inputsUpTo(14) + "^input z 1 2;");
        at(4, F + inputsUpTo(14) + "^let z = 1 + 1;");
        at(4, F + "let z = 1 + 1;" + inputsUpTo(13) + "^input y 1 2;");
        due.says("of input the least, the greatest (-10000000 .. 10000000, the second no less than the first)");
        ShortEnough y = right(F + "input a -10000000 10000000;input b 10000000 10000000;"
            + "input c -10000000 -10000000;input d 5 5;input e -6 -5;input g 0 -0;");
        long[][] ends = {{-10000000, 10000000}, {10000000, 10000000}, {-10000000, -10000000}, {5, 5}, {-6, -5}, {0, 0}};
        for (int i = 0; i < ends.length; i++) {
            due.is("told(" + i + ", 0)", y.told(i, 0), ends[i][0]);
            due.is("told(" + i + ", 1)", y.told(i, 1), ends[i][1]);
        }
        at(2, F + "input a ^10000001 10000001;");
        at(2, F + "input a ^-10000001 0;");
        at(2, F + "input a 0 ^10000001;");
        at(2, F + "input a -10000000 ^-10000001;");
        at(2, F + "input a 5 ^4;");
        at(2, F + "input a -5 ^-6;");
        at(2, F + "input a 0 ^-1;");
        at(2, F + "input a 10000000 ^9999999;");
        due.says("V of let: -1000000 .. 1000000");
        ShortEnough z = right(F + "let a = -1000000 + 1000000;let b = 1000000 - -1000000;");
        due.is("told(0, 0)", z.told(0, 0), -1000000);
        due.is("told(0, 1)", z.told(0, 1), 1000000);
        due.is("told(1, 0)", z.told(1, 0), 1000000);
        due.is("told(1, 1)", z.told(1, 1), -1000000);
        at(2, F + "let a = ^1000001 + 1;");
        at(2, F + "let a = ^-1000001 + 1;");
        at(2, F + "let a = 1 + ^1000001;");
        at(2, F + "let a = 1 -^1000001;");
        at(2, F + "let a = 1 + ^- 1000001;");
        due.says("NAMES of it: NUMBERS that are there");
        right(F + A + "let b = a + a;let c = a + b;let d = c + b;");
        at(3, F + A + "let b = ^b + a;");
        at(3, F + A + "let b = a + ^b;");
        at(3, F + A + "let b = a + ^c;input c 1 2;");
        at(3, F + A + "let b = ^f + a;");
        at(3, F + A + "let b = a + ^f;");
        at(3, F + A + "let b = ^aa + a;");
    }

    private void others() {
        due.says("what a CAST costs (0 .. 999; the last one counts; 1 without)");
        due.is("has(6), cast 0", right(F + A + "cast 0;").has(6), 0);
        due.is("has(6), cast 999", right(F + A + "cast 999;").has(6), 999);
        due.is("has(6), cast 5, cast 3", right("cast 5;" + F + "cast 3;" + A).has(6), 3);
        due.is("has(6), cast 3, cast 5", right("cast 3;" + F + "cast 5;" + A).has(6), 5);
        due.is("has(6) without", right(F + A).has(6), 1);
        at(2, F + A + "cast ^1000;");
        due.says("a NUMBER that is kept in a FORMAT (the last one counts)");
        ShortEnough x = right(formatsUpTo(3) + inputsUpTo(2) + "fixed na fa;fixed nb fb;fixed na fc;fixed na fb;");
        due.is("number(0, 4)", x.number(0, 4), 1);
        due.is("chosen(0)", x.chosen(0), 1);
        due.is("number(1, 4)", x.number(1, 4), 1);
        due.says("two unlike NUMBERS are of one GROUP, and so are all that are of one with either");
        ShortEnough y = right(F + inputsUpTo(7)
            + "group na ng;group nc nb;group ne nf;group nb ne;group nf ne;");
        int[] groups = {0, 1, 1, 2, 1, 1, 0};
        for (int i = 0; i < groups.length; i++) {
            due.is("number(" + i + ", 3)", y.number(i, 3), groups[i]);
        }
        due.is("has(4)", y.has(4), 3);
        at(3, F + A + "group a ^a;");
        due.says("whose ERROR may be N (0 .. 1000000) at most (the last one counts)");
        ShortEnough z = right(F + inputsUpTo(3) + "answer na within 0;answer nb within 1000000;"
            + "answer na within 7;answer nb within 8;answer nb within 0;");
        due.is("number(0, 5)", z.number(0, 5), 7);
        due.is("number(1, 5)", z.number(1, 5), 0);
        due.is("number(2, 5)", z.number(2, 5), -1);
        due.is("has(3)", z.has(3), 2);
        due.is("number(0, 5)", right(F + A + "answer a within 1000000;").number(0, 5), 1000000);
        at(2, F + A + "answer a within ^1000001;");
    }

    private void names() {
        due.says("NAMES: 1 to 6 letters a .. z");
        ShortEnough x = right("format q step 1 most 9 cost 0;input azazaz 1 2;let zzzzzz = azazaz + azazaz;");
        due.is("letter(0, true, 1)", x.letter(0, true, 1), 0);
        due.is("letter(0, false, 5)", x.letter(0, false, 5), 26);
        due.is("letter(1, false, 5)", x.letter(1, false, 5), 26);
        at(1, "format ^abcdefg step 1 most 9 cost 0;");
        at(1, F + "input ^abcdefg 1 2;");
        at(1, F + A + "let ^abcdefg = a + a;");
        at(1, F + A + "let b = ^abcdefg + a;");
        at(1, F + A + "fixed ^abcdefg f;");
        at(1, F + A + "group a ^abcdefg;");
        for (char c : new char[] {'A', 'Z', '`', '{', '_', '@', '[', 223, 225}) {
            at(1, F + "input ^" + c + " 1 2;");
            at(1, F + "input a^" + c + "b 1 2;");
        }
        due.says("no OWN WORD: format, step, most, cost, cast, input, let, min, max, fixed, group, answer, within");
        for (String own : OWN) {
            at(1, "format ^" + own + " step 1 most 9 cost 0;");
            at(1, F + "input ^" + own + " 1 2;");
            at(1, F + A + "let ^" + own + " = a + a;");
            at(1, F + A + "let b = ^" + own + " + a;");
            at(1, F + A + "let b = a + ^" + own + ";");
            at(1, F + A + "fixed ^" + own + " f;");
            at(1, F + A + "fixed a ^" + own + ";");
            at(1, F + A + "group ^" + own + " a;");
            at(1, F + A + "group a ^" + own + ";");
            at(1, F + A + "answer ^" + own + " within 1;");
            right(F + "input " + own.substring(1) + " 1 2;");
            right(F + "input " + own.substring(0, own.length() - 1) + " 1 2;");
            right(F + "input " + (own + "s").substring(own.length() == 6 ? 1 : 0) + " 1 2;");
        }
        due.says("unlike ones (FORMATS and NUMBERS together)");
        at(3, F + "format ^f step 1 most 9 cost 0;" + A);
        at(3, A + "format ^a step 1 most 9 cost 0;");
        at(3, A + "let b = a + a;format ^b step 1 most 9 cost 0;");
        at(3, F + "input ^f 1 2;");
        at(3, F + A + "input ^a 1 2;");
        at(3, F + A + "let b = a + a;input ^b 1 2;");
        at(3, F + A + "let ^f = a + a;");
        at(3, F + A + "let ^a = a + a;");
        at(3, F + A + "let b = a + a;let ^b = a + a;");
        right(F + "input ff 1 2;input fff 1 2;let fg = ff + fff;let gf = fg + fg;");
        due.says("N: 1 to 8 digits");
        due.is("format(0, 1)", right("format f step 00000001 most 12345678 cost 00000000;" + A).format(0, 1), 12345678);
        at(1, "format f step ^000000001 most 9 cost 0;");
        at(1, "format f step 1 most ^123456789 cost 0;");
        at(1, "format f step 1 most 9 cost ^000000000;");
        at(1, "cast ^000000000;");
        at(1, "input a ^000000001 2;");
        at(1, "input a 1 -^000000001;");
        at(1, A + "let b = a + ^000000001;");
        at(1, A + "answer a within ^000000001;");
        at(1, "cast ^99999999999999999999;");
        at(1, "cast ^4294967301;");
    }

    private static String joined(String between) {
        StringBuilder text = new StringBuilder(between);
        for (String token : TOKENS) {
            text.append(token).append(between);
        }
        return text.toString();
    }

    /** As few blanks as can be: where a word or a number meets another one. */
    private static String packed() {
        StringBuilder text = new StringBuilder();
        for (String token : TOKENS) {
            boolean meets = text.length() > 0 && Character.isLetterOrDigit(text.charAt(text.length() - 1))
                && Character.isLetterOrDigit(token.charAt(0));
            text.append(meets ? " " : "").append(token);
        }
        return text.toString();
    }

    private void blanks() {
        due.says("Blanks (10, 32) are where one likes");
        String[] texts = {packed(), joined(" "), joined("\n"), joined(" \n "), joined("\n\n\n")};
        for (String text : texts) {
            ShortEnough x = right(text);
            due.is("has(0)", x.has(0), 4);
            due.is("told(0, 0)", x.told(0, 0), -1);
            due.is("told(1, 1)", x.told(1, 1), 0);
            due.is("told(2, 1)", x.told(2, 1), -5);
            due.is("number(3, 0)", x.number(3, 0), 2);
            due.is("number(2, 5)", x.number(2, 5), 3);
        }
        for (char c : new char[] {0, 9, 11, 12, 13, 31, 33, 127, 133, 160, 255}) {
            at(1, "^" + c + F + A);
            at(1, F + A + "^" + c);
            at(1, F + "input a^" + c + "1 2;");
            at(1, F + "input a 1 2^" + c + ";");
        }
        due.says("words and numbers side by side need one; else it is FAULT 1 at the second's first byte");
        at(1, "format f^1 step 1 most 9 cost 0;");
        at(1, "format f step^1 most 9 cost 0;");
        at(1, "format f step 1^most 9 cost 0;");
        at(1, "format f step 1 most^9 cost 0;");
        at(1, "format f step 1 most 9^cost 0;");
        at(1, "format f step 1 most 9 cost^0;");
        at(1, "cast^5;");
        at(1, "cast 5^x;");
        at(1, "input a^1 2;");
        at(1, A + "let b = a min^5;");
        at(1, A + "let b = 5^min 5;");
        at(1, A + "let b = 5^max a;");
        at(1, A + "answer a within^5;");
        at(1, A + "answer a within 5^within;");
        // With no blank, two words are one word, two numbers one number.
        at(1, "^formatf step 1 most 9 cost 0;");
        at(1, F + "input a 12^;");
    }

    private void order() {
        due.says("At most 40 STATEMENTS");
        String casts = "cast 1;".repeat(38);
        right(F + A + casts);
        right(F + A + casts + " \n ");
        at(4, F + A + casts + "^cast 1;");
        at(4, F + A + casts + "\n ^answer a within 5;");
        at(4, "cast 1;".repeat(40) + "^cast");
        due.says("of several the one whose place is least");
        at(1, "cast ^x;cast 1000;input format 1 2;");
        at(2, "cast ^1000;cast x;input a 1 2;input a 1 2;");
        at(3, F + "input ^f 5 4;cast x;");
        at(3, A + "answer ^b within 1000001 5;");
        at(2, "input a 5 ^4;let a = b +;");
        at(4, formatsUpTo(4) + "^format fa step 0 x");
        at(4, F + inputsUpTo(14) + "^input na 5 4;cast 1000");
        at(2, F + inputsUpTo(13) + "input z 5 ^4;input y 1 2;");
        at(2, "format f step ^0 most 0 cost 1000;");
        at(2, "cast ^1000");
        due.says("of one place the one that stands first here");
        at(1, F + A + casts + "^;");
        at(1, F + A + casts + "^7");
        at(1, F + A + casts + "^x");
        at(1, F + A + casts + "^step");
        at(1, F + A + casts + "^castcast");
        at(1, formatsUpTo(4) + "^formats");
        at(1, F + inputsUpTo(14) + "^inputs z 1 2;");
        at(1, "format^");
        at(1, "cast 5^");
        at(1, F + "cast 5^");
        at(1, A + "cast 5^");
        at(1, "cast ^123456789;");
        at(1, "input a 1 2;input ^answer 1 2;answer a within 3;");
    }

    private void firstFault() {
        due.says("1 the first byte with which no TASK goes on");
        for (int c = 0; c < 256; c++) {
            boolean blank = c == 10 || c == 32;
            wrong("" + (char) c, blank ? 4 : 1, blank ? 1 : 0);
            boolean plain = c >= '0' && c <= '9' || c >= 'a' && c <= 'z' || blank;
            if (!plain) {
                at(1, F + A + "^" + (char) c);
                at(1, "format ^" + (char) c);
                at(1, "format f^" + (char) c);
                at(1, "cast ^" + (char) c);
                at(1, "cast 5^" + (c == ';' ? "" : "" + (char) c));
                at(1, A + "let b^" + (c == '=' ? "" : "" + (char) c));
                at(1, A + "let b=a^" + (c == '+' || c == '-' || c == '*' ? "" : "" + (char) c));
                at(1, "input a " + (c == '-' ? "-^" : "^" + (char) c));
            }
        }
        // Numbers that are as great as the byte that is asked for.
        at(1, "cast 5 ^59");
        at(1, A + "let b ^61 a + a;");
        at(1, A + "let b = a ^43 a;");
        at(1, A + "let b = a ^45 a;");
        at(1, A + "let b = a ^42 a;");
        due.says("words and numbers whole, at their first byte");
        at(1, "^formatx f step 1");
        at(1, "^form");
        at(1, "^forma f step 1");
        at(1, "format f ^stepp 1");
        at(1, "format f ^ste 1");
        at(1, A + "let b = a ^mina;");
        at(1, A + "answer a ^withi 1;");
        at(1, "^1format f step 1");
        at(1, "format ^12f step 1");
        due.says("an OWN WORD where a NAME is asked");
        at(1, "format ^most step 1 most 9 cost 0;");
        at(1, F + A + "group a ^max;");
        due.says("a word of more than 6 letters that is none: at its first byte");
        at(1, "^formats f step 1");
        at(1, F + "input ^aaaaaaa 1 2;");
        at(1, F + "input aaaaaa 1 2;let b = ^aaaaaaa + 1;");
        at(1, F + A + "answer a ^withins 1;");
        at(1, F + A + "answer ^abcdefghijklmnopqrstuvwxyzabcdefghijklmnopqrstuvwxyz within 1;");
        due.says("a number of more than 8 digits at its first byte");
        at(1, "cast ^100000000;");
        at(1, "input a ^100000000 1;");
        at(1, "input a - ^100000000 1;");
        at(1, "format f step ^00000000000000000000000000000001 most 1 cost 1;");
    }

    private void tooSoon() {
        due.says("at the text's length, if it ends too soon)");
        StringBuilder text = new StringBuilder();
        boolean hasFormat = false;
        boolean hasNumber = false;
        String first = TOKENS[0];
        for (int k = 0; k < TOKENS.length; k++) {
            text.append(TOKENS[k]).append(' ');
            boolean ends = TOKENS[k].equals(";");
            hasFormat |= ends && first.equals("format");
            hasNumber |= ends && (first.equals("input") || first.equals("let"));
            first = ends && k + 1 < TOKENS.length ? TOKENS[k + 1] : first;
            for (String cut : new String[] {text.toString().stripTrailing(), text.toString(), text + "\n \n"}) {
                if (!ends) {
                    wrong(cut, 1, cut.length());
                } else if (!hasFormat || !hasNumber) {
                    wrong(cut, 4, cut.length());
                } else {
                    right(cut);
                }
            }
        }
    }

    private void otherFaults() {
        due.says("2 a number that can't be, at its first byte (of V at its -, if it has one)");
        at(2, "cast   ^1000 ;");
        at(2, "input a ^-99999999 0;");
        at(2, "input a ^-  10000001 0;");
        at(2, "input a ^-\n10000001 0;");
        at(2, "input a 0 ^-  1;");
        at(2, A + "let b =^-1000001+a;");
        at(2, A + "let b = a -^1000001;");
        at(2, A + "let b = a -^-1000001;");
        at(2, "input a 5 ^4x");
        at(2, "cast ^1000x");
        due.says("3 a NAME told anew that is there already");
        at(3, F + "format ^f");
        at(3, A + "input   ^a");
        at(3, A + "let ^a");
        at(3, A + "let ^a1 = a + a;");
        due.says("one that is none of what is asked");
        at(3, F + A + "fixed ^f f;");
        at(3, F + A + "fixed ^b f;");
        at(3, F + A + "fixed a ^a;");
        at(3, F + A + "fixed a ^g;");
        at(3, F + "fixed ^a f;" + A);
        at(3, A + "fixed a ^f;" + F);
        at(3, F + A + "group ^f a;");
        at(3, F + A + "group ^b a;");
        at(3, F + A + "group a ^f;");
        at(3, F + A + "group a ^b;input b 1 2;");
        at(3, F + A + "answer ^f within 1;");
        at(3, F + A + "answer ^b within 1;");
        at(3, F + "answer ^a within 1;" + A);
        due.says("(of group also the same one twice, at the second)");
        at(3, F + A + "group a   ^a;");
        at(3, F + A + "group a\n^a");
        due.says("4 a 41st STATEMENT, a 5th FORMAT, a 15th NUMBER, at the STATEMENT's first byte");
        at(4, F + A + "cast 1;".repeat(38) + " \n^cast");
        at(4, formatsUpTo(4) + A + "  ^format");
        at(4, formatsUpTo(4) + A + "^format ;");
        at(4, F + inputsUpTo(14) + " ^input");
        at(4, F + inputsUpTo(14) + " ^let 5");
        right(F + inputsUpTo(14) + "cast 1;fixed na f;group na nb;answer na within 1;");
        right(formatsUpTo(4) + A + "cast 1;input b 1 2;fixed a fd;");
        due.says("a TASK without a FORMAT, without a NUMBER, at the text's length");
        at(4, "^");
        at(4, " \n^");
        at(4, "cast 5;^");
        at(4, F + "^");
        at(4, F + "cast 5; ^");
        at(4, A + "^");
        at(4, A + "let b = a + a;\n^");
        at(4, formatsUpTo(4) + "^");
        at(4, inputsUpTo(14) + "^");
    }
}
