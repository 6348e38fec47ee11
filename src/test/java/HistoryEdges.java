import java.util.Arrays;
import java.util.stream.LongStream;

/** Promise 4: what was told, asked and refused ahead of a TASK leaves nothing behind in it. */
final class HistoryEdges {
    private static final String[] TEXTS = {CallEdges.SUM, CallEdges.CLASH, fourteen(), answers(2), answers(4),
        "format z step 1 most 99999999 cost 7;let y = 1000000 * 1000000;let x = y + 5;let w = 7 + x;",
        "format p step 10 most 1000 cost 2;format q step 1 most 1000 cost 7;cast 0;input a 0 1;input b 0 1;input c 0 1;"
            + "input d 0 1;input e 0 1;input f 0 1;answer a within 4;answer f within 0;"};

    private final EdgesTest.Says due = new EdgesTest.Says("Promise 4");

    /** 14 NUMBERS, each of its own GROUP; c, f, i, l, n are not fixed, k is in y, the others are in z. */
    static String fourteen() {
        StringBuilder text = new StringBuilder("format y step 10 most 999 cost 1;format z step 1 most 999 cost 3;cast 0;");
        for (char name = 'a'; name < 'o'; name++) {
            text.append("input ").append(name).append(" 0 9;");
            text.append("cfiln".indexOf(name) >= 0 ? "" : "fixed " + name + (name == 'k' ? " y;" : " z;"));
        }
        return text + "answer c within 3;";
    }

    /** 16 CHOICES, two or four ANSWERS. */
    private static String answers(int many) {
        StringBuilder text = new StringBuilder("format y step 10 most 999 cost 1;format z step 4 most 999 cost 3;");
        for (int i = 0; i < 4; i++) {
            text.append("input ").append((char) ('a' + i)).append(" 0 9;");
            text.append(i < many ? "answer " + (char) ('a' + i) + " within 5;" : "");
        }
        return text.toString();
    }

    void run() {
        due.says("Without one the CHOICE at hand is as at first, no CERTIFICATE is read");
        for (String first : TEXTS) {
            for (String second : TEXTS) {
                for (String third : TEXTS) {
                    ShortEnough x = Due.with(first);
                    use(x);
                    Due.tell(x, second);
                    use(x);
                    Due.tell(x, "format f step 1 most 9 cost 9;cast 9;input g 0 9;input h 0 9;answer g within 9;fixed g f;group g h;");
                    Due.tell(x, "format f step 1 most 9 cost 9;cast 9;input g 0 9;answer g within 9;fixed g f;format");
                    Due.tell(x, third);
                    x.seed(1);
                    boolean alike = Arrays.equals(answers(x), answers(Due.with(third)));
                    due.is(third + " behind " + first + " and " + second, alike, true);
                }
            }
        }
    }

    private static void use(ShortEnough x) {
        x.passing();
        x.front(0, 0, 0);
        x.halves(0);
        x.take(0);
        x.choose(0, 1);
        x.choose(2, 1);
        x.feed(0, 0, 0, 0, 0);
        x.check();
        x.trials(3, 0);
    }

    /** What an object answers of its TASK. */
    private static long[] answers(ShortEnough x) {
        LongStream.Builder all = LongStream.builder();
        for (int what = 0; what < 8; what++) {
            all.add(x.has(what)).add(x.format(what / 3, what % 3));
        }
        all.add(x.cost()).add(x.casts()).add(x.fails()).add(x.why()).add(x.passing()).add(x.cheapest(-1));
        all.add(x.halves(-1)).add(x.halves(-2)).add(x.broken(0)).add(x.broken(1)).add(x.fault(0)).add(x.fault(1));
        for (int i = 0; i < Math.max(4, x.has(0)); i++) {
            for (int what = 0; what < 6; what++) {
                all.add(x.number(i, what));
            }
            all.add(x.letter(i, false, 0)).add(x.told(i, 0)).add(x.told(i, 1)).add(x.range(i, false)).add(x.range(i, true));
            all.add(x.uses(i)).add(x.depth(i)).add(x.chosen(i)).add(x.error(i)).add(x.slack(i)).add(x.widest(i));
            all.add(x.blame(i, i)).add(x.cheapest(i)).add(x.halves(i)).add(x.front(i, -1, 0)).add(x.front(i, 0, 1));
            all.add(x.least(i, 20)).add(x.trial(i, true));
        }
        for (int what = 0; what < 4; what++) {
            all.add(x.single(what));
        }
        return all.add(x.take(2)).add(x.take(0)).add(x.take(1)).add(x.certificate(0)).add(x.chosen(0)).build().toArray();
    }
}
