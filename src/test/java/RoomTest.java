import com.sun.management.ThreadMXBean;
import java.lang.management.ManagementFactory;

/**
 * What 512 calls on one object make, the dearest TASKS told again and again:
 * the room of a run has 7.3 million fields and elements; a tenth is allowed
 * here, each taken as eight bytes.
 */
public final class RoomTest {
    private static final long MOST_MADE = 7300000L / 10 * 8;

    public static void main(String[] args) {
        Due due = new Due("RoomTest");
        ThreadMXBean threads = (ThreadMXBean) ManagementFactory.getThreadMXBean();
        long thread = Thread.currentThread().getId();
        String[] texts = {task(2, 3, 4), task(4, 5, 9)};
        calls(new ShortEnough(), texts, 64);
        long before = threads.getThreadAllocatedBytes(thread);
        ShortEnough x = new ShortEnough();
        long made = threads.getThreadAllocatedBytes(thread) - before;
        System.out.println("RoomTest: a new object makes " + made + " bytes");
        due.is("a new object is small", made < 60000, true);
        before = threads.getThreadAllocatedBytes(thread);
        calls(x, texts, 512);
        made = threads.getThreadAllocatedBytes(thread) - before;
        System.out.println("RoomTest: 512 calls make " + made + " bytes, the texts' own ones too");
        due.is("512 calls make little", made < MOST_MADE, true);
        due.is("the dearest TASK has 1024 CHOICES", Due.with(texts[1]).passing(), 1024);
        due.end();
    }

    private static void calls(ShortEnough x, String[] texts, int most) {
        int calls = 0;
        for (int k = 0; calls < most; k++) {
            String text = texts[k % texts.length];
            Due.tell(x, text);
            calls += text.length() / 20 + 3;
            for (int i = 0; i < 14; i++) {
                x.front(i, 0, 1);
                x.least(i, 9999);
                x.halves(i);
                x.trials(40, i);
                x.widest(i);
                x.certificate(i);
                x.single(i % 4);
                x.take(i % 4);
                calls += 8;
            }
        }
    }

    private static String task(int formats, int free, int answers) {
        StringBuilder text = new StringBuilder();
        for (int f = 0; f < formats; f++) {
            text.append("format f").append((char) ('a' + f)).append(" step ").append(f + 1).append(" most 99999 cost ").append(9 - f).append(';');
        }
        for (int i = 0; i < 14; i++) {
            char name = (char) ('a' + i);
            text.append(i < free ? "input " + name + " 0 9;" : "let " + name + "=a max b;");
            text.append(i < free ? "" : "fixed " + name + " fa;");
        }
        for (int i = 0; i < answers && i < 17 - free; i++) {
            text.append("answer ").append((char) ('a' + i)).append(" within 99;");
        }
        return text.toString();
    }
}
