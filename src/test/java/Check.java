import java.nio.charset.StandardCharsets;
import java.util.Arrays;

/** What the tests share: a count of wrong answers, and texts that come onto THE TAPE and become a STORE. */
final class Check {
    private static int wrong = 0;

    private Check() {
    }

    static void same(String call, long got, long due) {
        if (got != due) {
            wrong++;
            System.out.println(call + " answered " + got + ", due is " + due);
        }
    }

    static void same(String call, boolean got, boolean due) {
        same(call, got ? 1L : 0L, due ? 1L : 0L);
    }

    static void isTrue(String what, boolean so) {
        if (!so) {
            wrong++;
            System.out.println("not so: " + what);
        }
    }

    /** A call's answer, and the TROUBLE that it leaves. */
    static void refused(String call, StampedRows x, long got, long due, int trouble) {
        same(call, got, due);
        same(call + ", then trouble()", x.trouble(), trouble);
    }

    /** Feeds a text, with blanks behind it up to a multiple of twenty bytes; answers the latest feed's answer. */
    static int feed(StampedRows x, String text) {
        byte[] bytes = text.getBytes(StandardCharsets.ISO_8859_1);
        byte[] padded = Arrays.copyOf(bytes, (bytes.length + 19) / 20 * 20);
        Arrays.fill(padded, bytes.length, padded.length, (byte) ' ');
        int answer = 0;
        for (int at = 0; at < padded.length; at += 20) {
            answer = x.feed(four(padded, at), four(padded, at + 4), four(padded, at + 8), four(padded, at + 12),
                four(padded, at + 16));
        }
        return answer;
    }

    private static int four(byte[] bytes, int at) {
        return (bytes[at] & 255) << 24 | (bytes[at + 1] & 255) << 16 | (bytes[at + 2] & 255) << 8 | bytes[at + 3] & 255;
    }

    static int store(StampedRows x, String text) {
        feed(x, text);
        return x.store(text.length());
    }

    /** A new object with a STORE that must be without a FAULT. */
    static StampedRows stored(String text) {
        StampedRows x = new StampedRows();
        int answer = store(x, text);
        if (answer < 0) {
            same("store of " + text + ", fault " + x.fault() + " at " + x.where(), answer, 0);
        }
        return x;
    }

    /** Ends the test: exit code 1 if an answer was wrong. */
    static void end() {
        System.out.println(wrong == 0 ? "all answers are as due" : wrong + " answers are not as due");
        if (wrong != 0) {
            System.exit(1);
        }
    }
}
