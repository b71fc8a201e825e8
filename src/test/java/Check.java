import java.nio.charset.StandardCharsets;
import java.util.NoSuchElementException;

/** What the tests share: telling a text to an object, comparing answers, and the end of a test's main. */
final class Check {
    private int wrong;
    private int made;

    void due(String call, long got, long want) {
        made++;
        if (got != want) {
            wrong++;
            System.out.println(call + " answered " + got + ", due is " + want);
        }
    }

    void due(String call, boolean got, boolean want) {
        due(call, got ? 1 : 0, want ? 1 : 0);
    }

    /** The call must throw NoSuchElementException, and nothing else. */
    void none(String call, Runnable run) {
        made++;
        try {
            run.run();
        } catch (NoSuchElementException e) {
            return;
        }
        wrong++;
        System.out.println(call + " threw nothing");
    }

    int wrong() {
        return wrong;
    }

    int made() {
        return made;
    }

    void end() {
        System.out.println(wrong + " of " + made + " answers are not as due");
        if (wrong != 0 || made == 0) {
            System.exit(1);
        }
    }

    /** Feeds a text, by 24 signs a call; the last answer. */
    static int tell(MurmurSheds x, String text) {
        byte[] bytes = text.getBytes(StandardCharsets.ISO_8859_1);
        int many = x.count(11);
        for (int i = 0; i < bytes.length; i += 24) {
            many = x.feed(pack(bytes, i), pack(bytes, i + 8), pack(bytes, i + 16));
        }
        return many;
    }

    private static long pack(byte[] bytes, int from) {
        long sum = 0;
        for (int i = from; i < from + 8; i++) {
            sum = sum << 8 | (i < bytes.length ? bytes[i] & 255 : 0);
        }
        return sum;
    }

    static int yard(MurmurSheds x, String text) {
        tell(x, text);
        return x.yard();
    }

    static int week(MurmurSheds x, String text) {
        tell(x, text);
        return x.week();
    }

    /** A new object with this yard, which must have no fault. */
    MurmurSheds of(String text) {
        MurmurSheds x = new MurmurSheds();
        due("yard " + text, yard(x, text), 0);
        return x;
    }

    /** The line of a yard that tells one shed. */
    static String shed(String name, String kind, int heat, int crowns) {
        return "shed " + name + " " + kind + " heat " + heat + " crowns " + crowns + ";";
    }

    /** The yard must have its fault at what stands behind @, which is not told. */
    void yardFault(String text, int kind) {
        int place = text.indexOf('@');
        due("yard " + text, yard(new MurmurSheds(), text.replace("@", "")), kind + 16 * place);
    }

    /** The week, told to the object, must have its fault at what stands behind @, which is not told. */
    void weekFault(MurmurSheds x, String text, int kind) {
        int place = text.indexOf('@');
        due("week " + text, week(x, text.replace("@", "")), kind + 16 * place);
    }

    /** What shed answers of each of these sheds, from the first one on. */
    void facts(MurmurSheds x, int what, int... due) {
        for (int i = 0; i < due.length; i++) {
            due("shed(" + i + ", " + what + ")", x.shed(i, what), due[i]);
        }
    }

    void nights(MurmurSheds x, int many) {
        for (int n = 0; n < many; n++) {
            x.night();
        }
    }
}
