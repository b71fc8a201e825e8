/** Promises 6 and 20 to 24: stages, and which sheds murmur for them. */
public final class StageTest {
    // Behind one night the murmurs are 5, 10, 3.
    private static final String SHEDS = "shed a plain heat 5 crowns 10;shed b plain heat 5 crowns 20;"
        + "shed c plain heat 3 crowns 10;";

    public static void main(String[] args) {
        Check check = new Check();
        had(check);
        waits(check);
        plays(check);
        playsOrder(check);
        blend(check);
        blendNow(check);
        aim(check);
        aimAhead(check);
        check.end();
    }

    private static MurmurSheds stages(Check check, String... wants) {
        StringBuilder text = new StringBuilder(SHEDS);
        for (int i = 0; i < wants.length; i++) {
            text.append("stage s").append((char) ('a' + i)).append(" wants ").append(wants[i]).append(';');
        }
        MurmurSheds x = check.of(text.toString());
        x.night();
        return x;
    }

    private static void had(Check check) {
        MurmurSheds x = stages(check, "3 to 5", "5 to 10", "3 to 3", "0 to 2", "0 to 99");
        int[][] wants = {{3, 5, 5}, {5, 10, 3}, {3, 3, 4}, {0, 2, 0}, {0, 99, 7}};
        for (int i = 0; i < 5; i++) {
            check.due("stage(" + i + ", 0)", x.stage(i, 0), wants[i][0]);
            check.due("stage(" + i + ", 1)", x.stage(i, 1), wants[i][1]);
            check.due("stage(" + i + ", 2)", x.stage(i, 2), -1);
            check.due("stage(" + i + ", -1)", x.stage(i, -1), -1);
            check.due("had(" + i + ")", x.had(i), wants[i][2]);
        }
        check.due("stage(5, 0)", x.stage(5, 0), -1);
        check.due("stage(-1, 0)", x.stage(-1, 0), -1);
        check.due("had(5)", x.had(5), -1);
        check.due("had(-1)", x.had(-1), -1);
        x.undo();
        check.due("had of silent ones", x.had(3), 7);
    }

    private static void waits(Check check) {
        MurmurSheds x = stages(check, "3 to 3", "6 to 7", "20 to 21", "11 to 11", "60 to 99");
        // a 5 10 15 .. 30, b 10 20 .. 60, c 3 6 .. 30.
        check.due("now", x.waits(0), 0);
        check.due("waits(1)", x.waits(1), 1);
        check.due("waits(2)", x.waits(2), 1);
        check.due("never", x.waits(3), -1);
        check.due("the least it wants", x.waits(4), 5);
        check.due("waits(5)", x.waits(5), -1);
        check.due("waits(-1)", x.waits(-1), -1);
        String slow = "shed a plain heat 1 crowns 10;stage s wants 60 to 60;roof 60;";
        check.due("by 60", check.of(slow).waits(0), 60);
        check.due("by 61", check.of(slow + "grows 0<date;").waits(0), -1);
    }

    private static void row(Check check, MurmurSheds x, int many, int... due) {
        check.due("plays(-1)", x.plays(-1), many);
        for (int i = 0; i < due.length; i++) {
            check.due("plays(" + i + ")", x.plays(i), due[i]);
        }
        check.due("plays beyond", x.plays(due.length), -2);
        check.due("plays(-2)", x.plays(-2), -2);
    }

    private static void plays(Check check) {
        row(check, stages(check, "3 to 5", "5 to 10", "3 to 3"), 3, 0, 1, 2);
        row(check, stages(check, "3 to 5", "5 to 5"), 2, 2, 0);
        row(check, stages(check, "3 to 5", "5 to 10"), 2, 0, 1);
        row(check, stages(check, "5 to 5", "5 to 5"), 1, 0, -1);
        row(check, stages(check, "60 to 99", "0 to 2"), 0, -1, -1);
        row(check, stages(check, "60 to 99", "3 to 3"), 1, -1, 2);
        row(check, stages(check), 0);
        row(check, stages(check, "0 to 99", "0 to 99", "0 to 99", "0 to 99", "0 to 99"), 3, 0, 1, 2, -1, -1);
    }

    private static void playsOrder(Check check) {
        // a suits all but the last, so that the first rows leave one out.
        row(check, stages(check, "3 to 5", "5 to 10", "5 to 5"), 3, 2, 1, 0);
        row(check, stages(check, "5 to 5", "5 to 10", "3 to 5", "5 to 5"), 3, 0, 1, 2, -1);
        row(check, stages(check, "10 to 10", "5 to 10", "10 to 10", "3 to 3", "3 to 3"), 3, 1, 0, -1, 2, -1);
    }

    private static void blend(Check check) {
        MurmurSheds x = stages(check, "13 to 13", "18 to 18", "5 to 5", "3 to 20", "8 to 13");
        check.due("two", x.blend(0), 6);
        check.due("all", x.blend(1), 7);
        check.due("one", x.blend(2), 1);
        check.due("of equal ones the least", x.blend(3), 1);
        check.due("the fewest", x.blend(4), 2);
        check.due("blend(5)", x.blend(5), -1);
        check.due("blend(-1)", x.blend(-1), -1);
        MurmurSheds y = stages(check, "0 to 2", "4 to 4", "19 to 99", "14 to 16", "6 to 8");
        check.due("less than one", y.blend(0), -1);
        check.due("between", y.blend(1), -1);
        check.due("more than all", y.blend(2), -1);
        check.due("a and b", y.blend(3), 3);
        check.due("a and c", y.blend(4), 5);
    }

    private static void blendNow(Check check) {
        MurmurSheds x = check.of("shed a plain heat 9 crowns 1;shed b plain heat 0 crowns 5;stage s wants 0 to 0;");
        check.due("of silent ones", x.blend(0), 1);
        check.nights(x, 2);
        check.due("a murmurs", x.had(0), 2);
        x.pull(0, 1);
        check.due("without crowns it can be had", x.had(0), 3);
        check.due("but not blended", x.blend(0), 2);
        MurmurSheds none = check.of("stage s wants 0 to 0;");
        check.due("no sheds", none.blend(0), -1);
        check.due("no sheds", none.had(0), 0);
        check.due("no sheds", none.waits(0), -1);
        check.due("no sheds", none.plays(-1), 0);
        check.due("no sheds", none.plays(0), -1);
        check.due("no sheds", none.aim(0, 1, 0), -1);
    }

    private static void aim(Check check) {
        MurmurSheds x = stages(check, "3 to 5", "3 to 3", "60 to 99", "0 to 0", "18 to 18");
        x.undo();
        check.due("heat", x.aim(0, 1, 0), 2);
        check.due("shed", x.aim(0, 1, 1), 1);
        check.due("of equal ones the first", x.aim(1, 1, 0), 3);
        check.due("of equal ones the first", x.aim(1, 1, 1), 0);
        check.due("by none", x.aim(2, 1, 0), -1);
        check.due("by none", x.aim(2, 1, 1), -1);
        check.due("0", x.aim(3, 1, 0), 0);
        check.due("0", x.aim(3, 1, 1), 0);
        check.due("9", x.aim(4, 1, 0), 9);
        check.due("9", x.aim(4, 1, 1), 1);
        check.due("aim(0, 0, 0)", x.aim(0, 0, 0), -1);
        check.due("aim(3, 20, 0)", x.aim(3, 20, 0), 0);
        check.due("aim(3, 21, 0)", x.aim(3, 21, 0), -1);
        check.due("aim(3, 1, 2)", x.aim(3, 1, 2), -1);
        check.due("aim(3, 1, -1)", x.aim(3, 1, -1), -1);
        check.due("aim(5, 1, 0)", x.aim(5, 1, 0), -1);
        check.due("aim(-1, 1, 0)", x.aim(-1, 1, 0), -1);
        check.due("heats stay", x.shed(0, 1) * 100 + x.shed(1, 1) * 10 + x.shed(2, 1), 553);
        check.due("nothing is done", x.count(2) + x.count(10), 0);
    }

    private static void aimAhead(Check check) {
        MurmurSheds x = check.of("shed a plain heat 9 crowns 10;shed b plain heat 9 crowns 10;stage s wants 6 to 7;frost 2 5;");
        // In two nights at heat 7 it grows 5 and 2; at 6, 4 and 1.
        check.due("heat", x.aim(0, 2, 0), 7);
        check.due("shed", x.aim(0, 2, 1), 0);
        x.light(0);
        check.due("a lit one later", x.aim(0, 2, 0), 7);
        check.due("a lit one later", x.aim(0, 2, 1), 1);
        x.light(1);
        check.due("two lit ones", x.aim(0, 2, 0), -1);
        x.night();
        check.due("from now on", x.aim(0, 2, 0), 7);
        check.due("from now on", x.aim(0, 2, 1), 0);
    }
}
