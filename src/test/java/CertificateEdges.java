import java.nio.ByteBuffer;
import java.util.Arrays;

/** Terms III: what a CERTIFICATE is, when it HOLDS, where it BREAKS. */
final class CertificateEdges {
    private static final String SUM = "format short step 100 most 100000 cost 1;"
        + "format long step 10 most 1000000 cost 3;cast 2;input a 0 3000;input b -1000 2000;"
        + "let s = a + b;let p = s * 500;answer p within 80;group a b;";
    private static final long[][] SUM_ROWS =
        {{0, 0, 3000, 50}, {0, -1000, 2000, 50}, {0, -1000, 5000, 100}, {1, -500, 2500, 56}};

    private static final String OPS = "format f step 1 most 9999 cost 0;input a -5 5;input b 0 9;"
        + "let m = a - b;let n = a min b;let x = a max b;let t = a * 2000;let u = 3 - a;";
    private static final long[][] OPS_ROWS = {{0, -5, 5, 0}, {0, 0, 9, 0}, {0, -14, 5, 0}, {0, -5, 5, 0},
        {0, 0, 9, 0}, {0, -10, 10, 1}, {0, -2, 8, 0}};

    private static final String PRODUCT = "format f step 10 most 9999999 cost 0;input a 0 100;input b -100 0;"
        + "let c = a * b;answer c within 99;";
    private static final long[][] PRODUCT_ROWS = {{0, 0, 100, 5}, {0, -100, 0, 5}, {0, -10, 0, 8}};

    private final EdgesTest.Says due;

    CertificateEdges(EdgesTest.Says due) {
        this.due = due;
    }

    void run() {
        shape();
        choice();
        bySelf();
        most();
        order();
        held();
    }

    static byte[] bytes(long[]... rows) {
        ByteBuffer bytes = ByteBuffer.allocate(25 * rows.length);
        for (long[] row : rows) {
            bytes.put((byte) row[0]).putLong(row[1]).putLong(row[2]).putLong(row[3]);
        }
        return bytes.array();
    }

    private void breaks(ShortEnough x, byte[] bytes, int number, int why) {
        int before = x.status(3);
        Due.put(x, bytes);
        due.is("check()", x.check(), number == -2);
        due.is("broken(0)", x.broken(0), number);
        due.is("broken(1)", x.broken(1), why);
        due.is("status(3)", x.status(3), before + (number == -2 ? 0 : 1));
        due.is("the tape has gone", x.end(1), false);
    }

    /** Changes are triples of a row, a column and what stands there. */
    private void breaks(String text, long[][] rows, int number, int why, long... changes) {
        long[][] copy = new long[rows.length][];
        for (int i = 0; i < rows.length; i++) {
            copy[i] = rows[i].clone();
        }
        for (int k = 0; k + 2 < changes.length; k += 3) {
            copy[(int) changes[k]][(int) changes[k + 1]] = changes[k + 2];
        }
        breaks(Due.with(text), bytes(copy), number, why);
    }

    private void holds(String text, long[][] rows, long... changes) {
        breaks(text, rows, -2, 0, changes);
    }

    private void shape() {
        due.says("for each NUMBER FORMAT (one byte), the least, the greatest, ERROR (eight bytes each, the highest first)");
        holds(SUM, SUM_ROWS);
        holds(OPS, OPS_ROWS);
        holds(PRODUCT, PRODUCT_ROWS);
        due.says("It HOLDS, if it is just so long");
        byte[] right = bytes(SUM_ROWS);
        ShortEnough x = Due.with(SUM);
        for (int length : new int[] {0, 1, 25, 75, 99, 101, 120, 125, 1200}) {
            breaks(x, Arrays.copyOf(right, length), -1, -1);
            breaks(x, right, -2, 0);
        }
        ShortEnough most = Due.with("format f step 1 most 9 cost 0;input a 0 1;input b 0 1;input c 0 1;input d 0 1;"
            + "input e 0 1;input g 0 1;input h 0 1;input i 0 1;input j 0 1;input k 0 1;input l 0 1;input m 0 1;"
            + "input n 0 1;input o 0 1;");
        long[][] rows = new long[14][];
        Arrays.fill(rows, new long[] {0, 0, 1, 0});
        breaks(most, bytes(rows), -2, 0);
        breaks(most, Arrays.copyOf(bytes(rows), 325), -1, -1);
    }

    private void choice() {
        due.says("FORMATS make a CHOICE");
        holds(SUM, SUM_ROWS, 0, 0, 1, 1, 0, 1, 2, 0, 1);
        // a, b in long, s in short: both are CAST.
        breaks(SUM, SUM_ROWS, 2, 4, 0, 0, 1, 1, 0, 1);
        holds(SUM, SUM_ROWS, 0, 0, 1, 1, 0, 1, 0, 3, 5, 1, 3, 5, 2, 3, 110, 3, 3, 61);
        due.says("WHY 1 there is no such FORMAT");
        breaks(SUM, SUM_ROWS, 0, 1, 0, 0, 2);
        breaks(SUM, SUM_ROWS, 3, 1, 3, 0, 2);
        breaks(SUM, SUM_ROWS, 3, 1, 3, 0, 4);
        breaks(SUM, SUM_ROWS, 3, 1, 3, 0, 128);
        breaks(SUM, SUM_ROWS, 3, 1, 3, 0, 255);
        due.says("or it is not the FORMAT of its GROUP (of an earlier one, or as any of it is fixed)");
        breaks(SUM, SUM_ROWS, 1, 1, 1, 0, 1);
        breaks(SUM, SUM_ROWS, 1, 1, 0, 0, 1);
        breaks(SUM + "fixed b long;", SUM_ROWS, 0, 1);
        breaks(SUM + "fixed a long;", SUM_ROWS, 0, 1);
        breaks(SUM + "fixed a long;", SUM_ROWS, 1, 1, 0, 0, 1);
        breaks(SUM + "fixed s long;", SUM_ROWS, 2, 1);
        breaks(SUM + "fixed p short;", SUM_ROWS, 3, 1);
        holds(SUM + "fixed a short;fixed p long;fixed s short;", SUM_ROWS);
        String unlike = SUM + "fixed a short;fixed b long;";
        breaks(unlike, SUM_ROWS, 0, 1);
        breaks(unlike, SUM_ROWS, 0, 1, 0, 0, 1);
        String later = "format p step 1 most 9 cost 0;format q step 1 most 9 cost 0;input c 0 1;input a 0 1;input b 0 1;"
            + "group a b;fixed a p;fixed b q;";
        breaks(later, new long[][] {{1, 0, 1, 0}, {0, 0, 1, 0}, {1, 0, 1, 0}}, 1, 1);
    }

    private void bySelf() {
        due.says("by what it says itself of those that it is made of: its least is no more, its greatest and ERROR no less than reckoned as above (of an input the box, h)");
        // -1007 by 500: -503.5, of two the greater one.
        holds(SUM, SUM_ROWS, 0, 1, -7, 2, 1, -1007, 3, 1, -503);
        breaks(SUM, SUM_ROWS, 3, 2, 0, 1, -7, 2, 1, -1007, 3, 1, -502);
        breaks(SUM, SUM_ROWS, 2, 2, 0, 1, -7, 2, 1, -1006);
        holds(SUM, SUM_ROWS, 1, 2, 2100, 2, 2, 5100, 3, 2, 2550);
        breaks(SUM, SUM_ROWS, 2, 3, 1, 2, 2100, 2, 2, 5099);
        breaks(SUM, SUM_ROWS, 3, 3, 1, 2, 2100, 2, 2, 5100, 3, 2, 2549);
        holds(SUM, SUM_ROWS, 0, 3, 60, 2, 3, 110, 3, 3, 61);
        breaks(SUM, SUM_ROWS, 2, 4, 0, 3, 60, 2, 3, 109);
        breaks(SUM, SUM_ROWS, 3, 4, 0, 3, 60, 2, 3, 110, 3, 3, 60);
        for (int row = 0; row < 4; row++) {
            breaks(SUM, SUM_ROWS, row, 2, row, 1, SUM_ROWS[row][1] + 1);
            breaks(SUM, SUM_ROWS, row, 3, row, 2, SUM_ROWS[row][2] - 1);
            breaks(SUM, SUM_ROWS, row, 4, row, 3, SUM_ROWS[row][3] - 1);
        }
        holds(SUM, SUM_ROWS, 3, 1, -501, 3, 2, 2501, 3, 3, 57);
        // a from -6 to 7, b from -1 to 10: all others by these.
        long[] wider = {0, 1, -6, 0, 2, 7, 1, 1, -1, 1, 2, 10, 2, 1, -16, 2, 2, 8, 3, 1, -6, 3, 2, 7,
            4, 1, -1, 4, 2, 10, 5, 1, -12, 5, 2, 14, 6, 1, -4, 6, 2, 9};
        holds(OPS, OPS_ROWS, wider);
        for (int row = 2; row < 7; row++) {
            for (int column = 1; column <= 2; column++) {
                long[] changes = Arrays.copyOf(wider, wider.length + 3);
                int at = 12 + 6 * (row - 2) + 3 * (column - 1);
                changes[wider.length] = row;
                changes[wider.length + 1] = column;
                changes[wider.length + 2] = wider[at + 2] + (column == 1 ? 1 : -1);
                breaks(OPS, OPS_ROWS, row, column + 1, changes);
            }
        }
        // ERROR of a product by the greatest amounts that it says: 300 times 5, 100 times 5, 25.
        holds(PRODUCT, PRODUCT_ROWS, 0, 2, 300, 2, 1, -30, 2, 3, 9);
        breaks(PRODUCT, PRODUCT_ROWS, 2, 4, 0, 2, 300, 2, 1, -30);
        breaks(PRODUCT, PRODUCT_ROWS, 2, 2, 0, 2, 300, 2, 1, -29, 2, 3, 9);
        holds(PRODUCT, PRODUCT_ROWS, 1, 1, -300, 2, 1, -30, 2, 3, 9);
        breaks(PRODUCT, PRODUCT_ROWS, 2, 4, 1, 1, -300, 2, 1, -30);
        // 100 times 7, 100 times 5, 35.
        holds(PRODUCT, PRODUCT_ROWS, 1, 3, 7, 2, 3, 2 + 5 + 1);
        // 100 times 15, 100 times 5, 75.
        holds(PRODUCT, PRODUCT_ROWS, 1, 3, 15, 2, 3, 3 + 5 + 1);
        breaks(PRODUCT, PRODUCT_ROWS, 2, 4, 1, 3, 15);
    }

    private void most() {
        due.says("most and the ERROR of ANSWERS are as above by what it says");
        holds(SUM, SUM_ROWS, 3, 2, 1000000 - 56);
        breaks(SUM, SUM_ROWS, 3, 5, 3, 2, 1000000 - 55);
        holds(SUM, SUM_ROWS, 3, 1, -1000000 + 56);
        breaks(SUM, SUM_ROWS, 3, 5, 3, 1, -1000000 + 55);
        breaks(SUM, SUM_ROWS, 0, 5, 0, 1, -99951);
        breaks(SUM, SUM_ROWS, 0, 5, 0, 2, 99951);
        breaks(SUM, SUM_ROWS, 0, 5, 0, 3, 97001);
        breaks(SUM, SUM_ROWS, 2, 4, 0, 3, 97000);
        holds(SUM, SUM_ROWS, 3, 3, 80);
        breaks(SUM, SUM_ROWS, 3, 6, 3, 3, 81);
        holds(SUM + "answer p within 56;", SUM_ROWS);
        breaks(SUM + "answer p within 55;", SUM_ROWS, 3, 6);
        breaks(SUM + "answer a within 49;", SUM_ROWS, 0, 6);
        holds(SUM + "answer s within 150;", SUM_ROWS, 2, 3, 104, 3, 3, 58);
    }

    private void order() {
        due.says("It BREAKS at the first NUMBER where this is not so");
        breaks(SUM, SUM_ROWS, 1, 4, 1, 3, 49, 2, 1, 0, 3, 0, 9);
        breaks(SUM + "answer a within 49;", SUM_ROWS, 0, 6, 1, 0, 9);
        breaks(SUM, SUM_ROWS, 0, 2, 0, 1, 1, 1, 1, 1, 2, 1, 1, 3, 1, 1);
        due.says("2 least, 3 greatest, 4 ERROR, 5 most, 6 ERROR of an ANSWER; of several the first");
        long[] all = {3, 0, 2, 3, 1, 0, 3, 2, 0, 3, 3, -5};
        breaks(SUM, SUM_ROWS, 3, 1, all);
        breaks(SUM, SUM_ROWS, 3, 2, Arrays.copyOfRange(all, 3, 12));
        breaks(SUM, SUM_ROWS, 3, 3, Arrays.copyOfRange(all, 6, 12));
        breaks(SUM, SUM_ROWS, 3, 4, Arrays.copyOfRange(all, 9, 12));
        breaks(SUM, SUM_ROWS, 3, 4, 3, 2, 1000001, 3, 3, 5);
        breaks(SUM, SUM_ROWS, 3, 5, 3, 2, 1000001, 3, 3, 81);
        breaks(SUM, SUM_ROWS, 3, 6, 3, 2, 1000000 - 81, 3, 3, 81);
        breaks(SUM, SUM_ROWS, 3, 3, 3, 1, -1000001, 3, 2, 0, 3, 3, 81);
        breaks(SUM + "answer p within 0;", SUM_ROWS, 3, 4, 3, 3, 55);
        // In short p's ERROR is 101, whatever it may be.
        breaks(SUM, SUM_ROWS, 3, 4, 3, 0, 0);
        breaks(SUM, SUM_ROWS, 3, 6, 3, 0, 0, 3, 3, 101);
    }

    private void held() {
        due.says("(Its numbers are held within -10 to the 12 .. 10 to the 12 as they are read; an ERROR below 0: 4.)");
        long[] far = {1000000000000L, 1000000000001L, 1L << 62, Long.MAX_VALUE};
        for (long value : far) {
            breaks(SUM, SUM_ROWS, 0, 2, 0, 1, value);
            breaks(SUM, SUM_ROWS, 0, 5, 0, 2, value);
            breaks(SUM, SUM_ROWS, 0, 5, 0, 3, value);
            breaks(SUM, SUM_ROWS, 0, 5, 0, 1, -value);
            breaks(SUM, SUM_ROWS, 0, 3, 0, 2, -value);
            breaks(SUM, SUM_ROWS, 0, 4, 0, 3, -value);
            breaks(SUM, SUM_ROWS, 3, 5, 3, 1, -value, 3, 2, value, 3, 3, value);
        }
        breaks(SUM, SUM_ROWS, 0, 5, 0, 1, Long.MIN_VALUE);
        breaks(SUM, SUM_ROWS, 0, 5, 0, 1, Long.MIN_VALUE, 0, 2, Long.MAX_VALUE, 0, 3, Long.MAX_VALUE);
        breaks(SUM, SUM_ROWS, 0, 3, 0, 2, Long.MIN_VALUE);
        breaks(SUM, SUM_ROWS, 0, 4, 0, 3, Long.MIN_VALUE);
        breaks(SUM, SUM_ROWS, 0, 4, 0, 3, -1);
        breaks(OPS, OPS_ROWS, 0, 4, 0, 3, -1);
        breaks(OPS, OPS_ROWS, 6, 4, 6, 3, -1);
        // Each of the eight bytes counts.
        for (int bit = 17; bit < 63; bit++) {
            breaks(SUM, SUM_ROWS, 0, 5, 0, 2, 3000 + (1L << bit));
            breaks(SUM, SUM_ROWS, 0, 5, 0, 1, -(1L << bit));
            breaks(SUM, SUM_ROWS, 0, 5, 0, 3, 50 + (1L << bit));
        }
    }
}
