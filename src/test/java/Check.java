import java.nio.charset.StandardCharsets;
import java.util.NoSuchElementException;

/** What the tests share: telling a text to an object, comparing answers, and the end of a test's main. */
final class Check {
    private int wrong;
    private int made;

    void due(String call, long got, long want) {
        made++;
        if (got != want) {
            wrong++;
            System.out.println(call + " answered " + got + ", due is " + want);
        }
    }

    void due(String call, boolean got, boolean want) {
        due(call, got ? 1 : 0, want ? 1 : 0);
    }

    /** The call must throw NoSuchElementException, and nothing else. */
    void none(String call, Runnable run) {
        made++;
        try {
            run.run();
        } catch (NoSuchElementException e) {
            return;
        }
        wrong++;
        System.out.println(call + " threw nothing");
    }

    int wrong() {
        return wrong;
    }

    void end() {
        System.out.println(wrong + " of " + made + " answers are not as due");
        if (wrong != 0 || made == 0) {
            System.exit(1);
        }
    }

    /** Feeds a text, by 24 signs a call; the last answer. */
    static int tell(MurmurSheds x, String text) {
        byte[] bytes = text.getBytes(StandardCharsets.ISO_8859_1);
        int many = x.count(11);
        for (int i = 0; i < bytes.length; i += 24) {
            many = x.feed(pack(bytes, i), pack(bytes, i + 8), pack(bytes, i + 16));
        }
        return many;
    }

    private static long pack(byte[] bytes, int from) {
        long sum = 0;
        for (int i = from; i < from + 8; i++) {
            sum = sum << 8 | (i < bytes.length ? bytes[i] & 255 : 0);
        }
        return sum;
    }

    static int yard(MurmurSheds x, String text) {
        tell(x, text);
        return x.yard();
    }

    static int week(MurmurSheds x, String text) {
        tell(x, text);
        return x.week();
    }

    /** A new object with this yard, which must have no fault. */
    MurmurSheds of(String text) {
        MurmurSheds x = new MurmurSheds();
        due("yard " + text, yard(x, text), 0);
        return x;
    }

    void nights(MurmurSheds x, int many) {
        for (int n = 0; n < many; n++) {
            x.night();
        }
    }
}
