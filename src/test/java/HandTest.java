/** Promises 8 to 12 and 40: what is done by hand, undone, judged and marked. */
public final class HandTest {
    private static final String YARD = "shed a plain heat 4 crowns 10;shed b early heat 2 crowns 6;"
        + "shed c plain heat 9 crowns 20;near a b;frost 1 0;";

    public static void main(String[] args) {
        Check check = new Check();
        heat(check);
        light(check);
        pull(check);
        undo(check);
        undoLimit(check);
        judged(check);
        judgedStart(check);
        judgedHeat(check);
        marks(check);
        marksHold(check);
        marksHoldLines(check);
        marksHoldSeen(check);
        check.end();
    }

    private static void heat(Check check) {
        MurmurSheds x = check.of(YARD);
        check.due("heat(0, 9)", x.heat(0, 9), 4);
        check.due("heat(0, 0)", x.heat(0, 0), 9);
        check.due("heat(0, 0)", x.heat(0, 0), 0);
        check.due("shed(0, 1)", x.shed(0, 1), 0);
        check.due("done", x.count(10), 3);
        check.due("heat(0, 10)", x.heat(0, 10), -1);
        check.due("heat(0, -1)", x.heat(0, -1), -1);
        check.due("heat(3, 1)", x.heat(3, 1), -1);
        check.due("heat(-1, 1)", x.heat(-1, 1), -1);
        check.due("none of these is done", x.count(10), 3);
        check.due("shed(0, 1)", x.shed(0, 1), 0);
    }

    private static void light(Check check) {
        MurmurSheds x = check.of(YARD);
        check.due("light(2)", x.light(2), true);
        check.due("light(2)", x.light(2), false);
        check.due("light(0)", x.light(0), true);
        check.due("light(3)", x.light(3), false);
        check.due("light(-1)", x.light(-1), false);
        check.due("light(32)", x.light(32), false);
        check.due("lit", x.count(6), 5);
        check.due("done", x.count(10), 2);
        x.night();
        check.due("lit", x.count(6), 0);
        check.due("heights", x.shed(0, 3) * 10000 + x.shed(1, 3) * 100 + x.shed(2, 3), 200);
        check.due("light(2)", x.light(2), true);
    }

    private static void pull(Check check) {
        MurmurSheds x = check.of(YARD);
        check.nights(x, 1);
        check.due("too low", x.pull(2, 1), -1);
        check.nights(x, 1);
        check.due("high", x.shed(2, 3), 17);
        check.due("pull(2, 0)", x.pull(2, 0), -1);
        check.due("pull(2, 21)", x.pull(2, 21), -1);
        check.due("pull(2, -1)", x.pull(2, -1), -1);
        check.due("pull(3, 1)", x.pull(3, 1), -1);
        check.due("pull(-1, 1)", x.pull(-1, 1), -1);
        check.due("7 high", x.pull(0, 1), -1);
        check.due("pull(2, 15)", x.pull(2, 15), 5);
        check.due("as many are not there", x.pull(2, 6), -1);
        check.due("it is as high", x.shed(2, 3), 17);
        check.due("done", x.count(10), 3);
        check.due("pull(2, 5)", x.pull(2, 5), 0);
        check.due("0 high", x.shed(2, 3), 0);
        check.due("no more", x.pull(2, 1), -1);
        check.due("crowns of all", x.count(5), 16);
        MurmurSheds y = check.of("shed a plain heat 5 crowns 20;shed b plain heat 3 crowns 20;");
        check.nights(y, 2);
        y.light(0);
        check.due("10 high, and lit", y.pull(0, 20), 0);
        check.nights(y, 1);
        check.due("9 high", y.pull(1, 1), -1);
    }

    private static void undo(Check check) {
        MurmurSheds x = check.of(YARD);
        check.due("nothing", x.undo(), false);
        check.nights(x, 2);
        x.light(1);
        x.heat(1, 7);
        x.pull(2, 20);
        check.due("done", x.count(10), 5);
        check.due("undo pull", x.undo(), true);
        check.due("crowns", x.shed(2, 2), 20);
        check.due("high", x.shed(2, 3), 17);
        check.due("undo heat", x.undo(), true);
        check.due("heat", x.shed(1, 1), 2);
        check.due("lit", x.shed(1, 4), 1);
        x.night();
        check.due("dark", x.shed(1, 4), 0);
        check.due("undo night", x.undo(), true);
        check.due("lit", x.shed(1, 4), 1);
        check.due("undo light", x.undo(), true);
        check.due("dark", x.shed(1, 4), 0);
        check.due("undo night", x.undo(), true);
        check.due("the night", x.count(2), 1);
        check.due("frost", x.count(3), 0);
        check.due("high", x.shed(0, 3), 3);
        check.due("heard", x.heard(0), 3);
        check.due("undo night", x.undo(), true);
        check.due("heard", x.heard(0), 1);
        check.due("the night", x.count(2), 0);
        check.due("nothing more", x.undo(), false);
        check.due("nothing more", x.count(10), 0);
    }

    private static void undoLimit(Check check) {
        MurmurSheds x = check.of(YARD);
        for (int n = 1; n <= 40; n++) {
            x.heat(0, n % 10);
            check.due("what can be undone", x.count(10), Math.min(n, 16));
        }
        for (int n = 39; n >= 24; n--) {
            check.due("undo", x.undo(), true);
            check.due("heat", x.shed(0, 1), n % 10);
        }
        check.due("undo", x.undo(), false);
        check.due("heat", x.shed(0, 1), 4);
        x.heat(0, 9);
        x.see(1, 1, true);
        Check.week(x, "night;");
        check.due("undo", x.undo(), true);
        check.due("the week stays", x.count(8), 1);
        check.due("what is seen stays", x.count(9), 1);
    }

    private static void judged(Check check) {
        MurmurSheds x = check.of(YARD);
        check.due("no week", x.judged(0), -1);
        check.due("no week", x.judged(1), -1);
        check.due("no week", x.judged(2), 36);
        check.due("week", Check.week(x, "heat a 4;light b;night;light b;light b;pull c 2;night;night;pull c 5;pull c 16;"), 0);
        check.due("judged(0)", x.judged(0), 4);
        check.due("judged(1)", x.judged(1), 6);
        check.due("judged(2)", x.judged(2), 31);
        check.due("judged(3)", x.judged(3), -2);
        check.due("judged(-1)", x.judged(-1), -2);
        check.due("week", Check.week(x, "night;pull c 1;night;pull c 21;"), 4 + 16 * 28);
        check.due("week", Check.week(x, "night;heat b 2;pull c 1;night;pull c 20;pull c 1;"), 0);
        check.due("judged(0)", x.judged(0), 2);
        check.due("judged(1)", x.judged(1), 3);
        check.due("judged(2)", x.judged(2), 16);
        check.due("week", Check.week(x, "heat b 2;night;light c;"), 0);
        check.due("all can be", x.judged(0), -1);
        check.due("none pops", x.judged(1), -1);
        check.due("all are left", x.judged(2), 36);
    }

    private static void judgedStart(Check check) {
        MurmurSheds x = check.of(YARD);
        Check.week(x, "light c;night;night;pull a 1;pull c 1;night;pull a 2;pull c 3;");
        for (int turn = 0; turn < 3; turn++) {
            check.due("judged(0)", x.judged(0), 3);
            check.due("judged(1)", x.judged(1), 5);
            check.due("judged(2)", x.judged(2), 31);
            x.night();
            x.heat(2, 0);
            x.heat(0, 9);
            x.light(2);
        }
        check.due("by hand it is as it was", x.count(2), 3);
        check.due("lit", x.count(6), 4);
    }

    private static void judgedHeat(Check check) {
        MurmurSheds x = check.of(YARD);
        Check.week(x, "heat a 9;heat c 0;night;night;night;pull a 9;pull c 1;heat b 9;night;");
        check.due("c is cold", x.judged(0), 6);
        check.due("a pops", x.judged(1), 3);
        check.due("nine fewer", x.judged(2), 27);
        Check.week(x, "heat b 9;heat c 0;night;night;light a;pull b 6;");
        check.due("all can be", x.judged(0), -1);
        check.due("b pops", x.judged(1), 3);
        check.due("six fewer", x.judged(2), 30);
    }

    private static void marks(Check check) {
        MurmurSheds x = new MurmurSheds();
        check.due("mark(-1, false)", x.mark(-1, false), false);
        check.due("mark(4, false)", x.mark(4, false), false);
        check.due("mark(4, true)", x.mark(4, true), false);
        for (int i = 0; i < 4; i++) {
            check.due("nothing is on it", x.mark(i, true), false);
            check.due("laid", x.mark(i, false), true);
            check.due("gone back to", x.mark(i, true), true);
            check.due("and again", x.mark(i, true), true);
        }
        check.due("yard", Check.yard(x, YARD), 0);
        for (int i = 0; i < 4; i++) {
            check.due("no more", x.mark(i, true), false);
        }
    }

    private static void marksHold(Check check) {
        MurmurSheds x = check.of(YARD);
        check.nights(x, 2);
        x.pull(2, 3);
        x.light(0);
        x.heat(1, 8);
        Check.week(x, "night;night;");
        x.see(1, 2, false);
        x.see(2, 3, true);
        check.due("laid", x.mark(1, false), true);
        check.due("that can be undone yet", x.count(10), 5);
        check.nights(x, 3);
        Check.week(x, "night;pull a 1;night;");
        x.see(3, 4, false);
        x.heat(0, 0);
        check.due("laid", x.mark(2, false), true);
        check.due("back", x.mark(1, true), true);
        int[] due = {3, 0, 2, 1, 30, 33, 1, 0, 2, 2, 0, 0};
        for (int what = 0; what < due.length; what++) {
            check.due("count(" + what + ")", x.count(what), due[what]);
        }
        check.due("heat", x.shed(1, 1), 8);
        check.due("high", x.shed(0, 3), 7);
        check.due("heard", x.heard(0), 3);
        check.due("no undo", x.undo(), false);
        x.night();
        x.undo();
        check.due("the other one", x.mark(2, true), true);
        check.due("its night", x.count(2), 5);
        check.due("its week", x.count(8), 3);
        check.due("its seen", x.count(9), 3);
        check.due("its heat", x.shed(0, 1), 0);
        check.due("laid anew", x.mark(1, false), true);
        x.night();
        check.due("back", x.mark(1, true), true);
        check.due("its night", x.count(2), 5);
        Check.tell(x, "roof 9;");
        x.mark(2, true);
        check.due("the tape stays", x.count(11), 7);
    }

    private static void marksHoldLines(Check check) {
        MurmurSheds x = check.of(YARD);
        Check.week(x, "heat a 9;heat c 0;night;night;pull a 4;");
        x.see(2, 100, true);
        check.due("c alone", x.who(), 4);
        x.mark(0, false);
        Check.week(x, "light c;night;heat b 9;night;night;pull b 5;");
        x.see(1, 18, true);
        x.see(1, 40, false);
        check.due("none", x.who(), 0);
        x.mark(3, false);
        Check.week(x, "pull a 1;pull a 1;pull a 1;night;night;heat a 9;");
        check.due("another week", x.judged(0) * 100 + x.judged(1), 4);
        check.due("back", x.mark(0, true), true);
        check.due("its week", x.judged(0) * 10000 + x.judged(1) * 100 + x.judged(2), -10000 + 300 + 32);
        check.due("its seen", x.who(), 4);
        x.see(3, 1, false);
        check.due("back", x.mark(3, true), true);
        check.due("its week", x.judged(0) * 10000 + x.judged(1) * 100 + x.judged(2), -10000 + 300 + 31);
        check.due("its seen", x.who(), 0);
        check.due("its seen", x.count(9), 3);
    }

    private static void marksHoldSeen(Check check) {
        // In the first night they creak 30, 12, 160, in the second 40, 18, 180.
        MurmurSheds x = check.of(YARD);
        x.mark(0, false);
        x.see(2, 40, false);
        check.due("b alone", x.who(), 2);
        x.mark(1, false);
        x.mark(0, true);
        check.due("nothing is seen", x.who(), 7);
        x.see(1, 31, true);
        check.due("c alone", x.who(), 4);
        x.mark(2, false);
        x.mark(1, true);
        check.due("b alone", x.who(), 2);
        x.mark(2, true);
        check.due("c alone", x.who(), 4);
        x.see(2, 180, false);
        check.due("none", x.who(), 0);
    }
}
