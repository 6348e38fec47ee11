import java.nio.charset.StandardCharsets;
import java.util.Arrays;

/** Counts answers that are not as due, and tells texts and bytes to an object. */
final class Due {
    private final String test;
    private int asked;
    private int wrong;

    Due(String test) {
        this.test = test;
    }

    void is(String call, long got, long want) {
        asked++;
        if (got != want) {
            wrong++;
            if (wrong <= 50) {
                System.out.println(test + ": " + call + " answered " + got + ", due is " + want);
            }
        }
    }

    void is(String call, boolean got, boolean want) {
        is(call, got ? 1 : 0, want ? 1 : 0);
    }

    boolean isRight() {
        return wrong == 0;
    }

    void end() {
        System.out.println(test + ": " + asked + " answers, " + wrong + " not as due");
        if (wrong != 0 || asked == 0) {
            System.exit(1);
        }
    }

    static byte[] bytes(String text) {
        return text.getBytes(StandardCharsets.ISO_8859_1);
    }

    /** Puts bytes on the empty tape of x. */
    static void put(ShortEnough x, byte[] bytes) {
        byte[] full = Arrays.copyOf(bytes, (bytes.length + 19) / 20 * 20);
        for (int at = 0; at < full.length; at += 20) {
            x.feed(four(full, at), four(full, at + 4), four(full, at + 8),
                four(full, at + 12), four(full, at + 16));
        }
        x.end(bytes.length);
    }

    static int four(byte[] bytes, int at) {
        return (bytes[at] & 255) << 24 | (bytes[at + 1] & 255) << 16
            | (bytes[at + 2] & 255) << 8 | bytes[at + 3] & 255;
    }

    static int tell(ShortEnough x, String text) {
        put(x, bytes(text));
        return x.task();
    }

    static ShortEnough with(String text) {
        ShortEnough x = new ShortEnough();
        if (tell(x, text) < 0) {
            throw new IllegalStateException("fault " + x.fault(0) + " at " + x.fault(1) + ": " + text);
        }
        return x;
    }
}
