/** Promises 13 to 19, 30 to 32 and 41: what comes if nothing else is done, and what is now. */
public final class AheadTest {
    // By n nights a is 3n high (60 at most), b 2n to 10 and n more behind it, c none.
    private static final String YARD = "shed a plain heat 3 crowns 20;shed b early heat 1 crowns 7;"
        + "shed c plain heat 0 crowns 4;roof 60;";

    public static void main(String[] args) {
        Check check = new Check();
        later(check);
        creak(check);
        pops(check);
        riot(check);
        calm(check);
        roofed(check);
        yields(check);
        most(check);
        counts(check);
        check.end();
    }

    private static void later(Check check) {
        MurmurSheds x = check.of(YARD);
        check.due("later(0, 0)", x.later(0, 0), 0);
        check.due("later(0, 1)", x.later(0, 1), 3);
        check.due("later(0, 19)", x.later(0, 19), 57);
        check.due("later(0, 60)", x.later(0, 60), 60);
        check.due("later(1, 5)", x.later(1, 5), 10);
        check.due("later(1, 6)", x.later(1, 6), 11);
        check.due("later(1, 60)", x.later(1, 60), 60);
        check.due("later(2, 60)", x.later(2, 60), 0);
        check.due("later(0, 61)", x.later(0, 61), -1);
        check.due("later(0, -1)", x.later(0, -1), -1);
        check.due("later(3, 1)", x.later(3, 1), -1);
        check.due("later(-1, 1)", x.later(-1, 1), -1);
        check.due("nothing is done", x.count(2) + x.count(10) + x.shed(0, 3), 0);
        x.light(0);
        x.night();
        check.due("later(0, 1)", x.later(0, 1), 3);
        x.light(0);
        check.due("later(0, 1) of a lit one", x.later(0, 1), 0);
        check.due("later(0, 2) of a lit one", x.later(0, 2), 3);
        MurmurSheds y = check.of("shed a plain heat 9 crowns 1;frost 9 5 0;");
        int[] due = {0, 0, 4, 13, 13, 17, 26, 26, 30};
        for (int n = 0; n < due.length; n++) {
            check.due("later by frosts", y.later(0, n), due[n]);
        }
        y.night();
        check.due("later by frosts from then on", y.later(0, 2), 13);
    }

    private static void creak(Check check) {
        MurmurSheds x = check.of(YARD);
        check.due("creak(0, 1)", x.creak(0, 1), 60);
        check.due("creak(1, 5)", x.creak(1, 5), 14);
        check.due("creak(1, 6)", x.creak(1, 6), 7);
        check.due("creak(0, 20)", x.creak(0, 20), 60);
        check.due("creak(0, 21)", x.creak(0, 21), 0);
        check.due("creak(1, 55)", x.creak(1, 55), 7);
        check.due("creak(1, 56)", x.creak(1, 56), 0);
        check.due("creak(0, 60)", x.creak(0, 60), 0);
        check.due("creak(2, 1)", x.creak(2, 1), 0);
        check.due("creak(0, 0)", x.creak(0, 0), -1);
        check.due("creak(0, 61)", x.creak(0, 61), -1);
        check.due("creak(3, 1)", x.creak(3, 1), -1);
        check.due("creak(-1, 1)", x.creak(-1, 1), -1);
        x.light(0);
        check.due("creak of a lit one", x.creak(0, 1), 0);
        check.due("creak of it then", x.creak(0, 2), 60);
    }

    private static void pops(Check check) {
        MurmurSheds x = check.of(YARD);
        check.due("pops(0)", x.pops(0), 4);
        check.due("pops(1)", x.pops(1), 5);
        check.due("pops(2)", x.pops(2), -1);
        check.due("pops(3)", x.pops(3), -1);
        check.due("pops(-1)", x.pops(-1), -1);
        check.due("first()", x.first(), 0);
        x.light(0);
        check.due("first() of equal ones", x.first(), 0);
        x.light(0);
        x.night();
        x.light(0);
        check.due("first()", x.first(), 1);
        check.nights(x, 4);
        check.due("pops(1) no more", x.pops(1), -1);
        check.due("pops(0)", x.pops(0), 1);
        x.night();
        check.due("first() no more", x.first(), -1);
        // One of frost 9 by 12 nights grows in the others: 1 a round, so 10 behind 60 nights at most.
        String cold = "shed a plain heat 1 crowns 1;grows (date<1)*%d+(date=59)*1;";
        check.due("pops by 60", check.of(cold.replace("%d", "9")).pops(0), 60);
        check.due("first by 60", check.of(cold.replace("%d", "9")).first(), 0);
        check.due("pops by 61", check.of(cold.replace("%d", "9").replace("59", "60")).pops(0), -1);
        check.due("first by 61", check.of(cold.replace("%d", "9").replace("59", "60")).first(), -1);
    }

    private static void riot(Check check) {
        MurmurSheds x = check.of(YARD);
        // 3n * 20 / 10 is 60 behind 10 nights; 60 * 7 / 10 is 42.
        check.due("riot(0)", x.riot(0), 10);
        check.due("riot(1)", x.riot(1), -1);
        check.due("riot(2)", x.riot(2), -1);
        check.due("riot(3)", x.riot(3), -1);
        check.due("riot(-1)", x.riot(-1), -1);
        check.nights(x, 10);
        check.due("riot(0) now", x.riot(0), 0);
        check.due("riots", x.count(7), 1);
        x.undo();
        check.due("riot(0)", x.riot(0), 1);
        check.due("riots", x.count(7), 0);
        String slow = "shed a plain heat 1 crowns 10;roof 60;";
        check.due("riot behind 60", check.of(slow).riot(0), 60);
        check.due("riot behind 61", check.of(slow + "grows 0<date;").riot(0), -1);
    }

    private static void calm(Check check) {
        MurmurSheds x = check.of(YARD);
        check.nights(x, 9);
        check.due("54 is none", x.calm(0), 0);
        x.night();
        check.due("60 is one, 57 is none", x.calm(0), 1);
        check.nights(x, 1);
        // 33 high: 18 crowns make 59.4.
        check.due("cut to 59", x.calm(0), 2);
        check.nights(x, 9);
        check.due("60 high: 9 crowns", x.calm(0), 11);
        check.due("calm(2)", x.calm(2), 0);
        check.due("calm(3)", x.calm(3), -1);
        check.due("calm(-1)", x.calm(-1), -1);
        check.due("pull", x.pull(0, 11), 9);
        check.due("calm then", x.calm(0), 0);
        check.due("pull", x.pull(0, 9), 0);
        check.due("calm without crowns", x.calm(0), 0);
    }

    private static void roofed(Check check) {
        MurmurSheds x = check.of(YARD);
        check.due("one never grows", x.roofed(), -1);
        String pair = "shed a plain heat 3 crowns 20;shed b early heat 1 crowns 7;roof 20;";
        MurmurSheds y = check.of(pair);
        check.due("roofed", y.roofed(), 15);
        check.nights(y, 15);
        check.due("roofed now", y.roofed(), 0);
        check.due("by 60", check.of("shed a plain heat 1 crowns 1;roof 60;").roofed(), 60);
        check.due("by 61", check.of("shed a plain heat 1 crowns 1;roof 60;grows 0<date;").roofed(), -1);
        check.nights(x, 4);
        x.heat(2, 9);
        check.nights(x, 2);
        x.pull(2, 4);
        x.pull(1, 7);
        check.due("without crowns they do not count", x.roofed(), 14);
        x.pull(0, 20);
        check.due("none has crowns", x.roofed(), 0);
        check.due("no sheds", new MurmurSheds().roofed(), 0);
    }

    private static void yields(Check check) {
        MurmurSheds x = check.of(YARD);
        check.due("yields(0)", x.yields(0), 0);
        check.due("yields(4), each cut", x.yields(4), 24 + 5);
        check.due("yields(20)", x.yields(20), 120 + 17);
        check.due("yields(60)", x.yields(60), 120 + 42);
        check.due("yields(61)", x.yields(61), -1);
        check.due("yields(-1)", x.yields(-1), -1);
        check.due("no sheds", new MurmurSheds().yields(60), 0);
    }

    private static void most(Check check) {
        MurmurSheds x = check.of("shed a plain heat 2 crowns 5;shed b plain heat 4 crowns 2;shed c plain heat 4 crowns 5;"
            + "shed d plain heat 2 crowns 10;");
        check.due("all are as loud", x.loud(), 0);
        check.due("all are as high", x.tall(), 0);
        check.nights(x, 5);
        // Heights 10, 20, 20, 10; murmurs 5, 4, 10, 10.
        check.due("loud", x.loud(), 2);
        check.due("tall", x.tall(), 1);
        x.pull(2, 1);
        check.due("loud", x.loud(), 3);
        x.pull(1, 2);
        check.due("tall", x.tall(), 2);
        check.due("no sheds", new MurmurSheds().loud(), -1);
        check.due("no sheds", new MurmurSheds().tall(), -1);
    }

    private static void counts(Check check) {
        MurmurSheds x = check.of("shed a plain heat 9 crowns 20;shed b plain heat 1 crowns 3;shed c wild heat 9 crowns 19;"
            + "stage s wants 1 to 2;frost 0 1 2;roof 50;near a b;");
        int[] start = {3, 1, 0, 0, 50, 42, 0, 0, 0, 0, 0, 0, -1};
        for (int what = 0; what < start.length; what++) {
            check.due("count(" + what + ")", x.count(what), start[what]);
        }
        check.nights(x, 5);
        x.light(0);
        x.light(2);
        x.pull(0, 2);
        x.see(1, 1, true);
        Check.week(x, "night;light b;");
        Check.tell(x, "roof");
        int[] then = {3, 1, 5, 2, 50, 40, 5, 5, 2, 1, 8, 4, -1};
        for (int what = 0; what < then.length; what++) {
            check.due("count(" + what + ") then", x.count(what), then[what]);
        }
        check.due("count(-1)", x.count(-1), -1);
    }
}
