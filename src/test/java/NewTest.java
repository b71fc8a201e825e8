/** Promise 1 and the constants: what a new object answers. */
public final class NewTest {
    public static void main(String[] args) {
        Check check = new Check();
        MurmurSheds x = new MurmurSheds();
        check.due("NONE", MurmurSheds.NONE, -1);
        int[] counts = {0, 0, 0, 0, 30, 0, 0, 0, 0, 0, 0, 0, -1};
        for (int what = 0; what < counts.length; what++) {
            check.due("count(" + what + ")", x.count(what), counts[what]);
        }
        check.due("count(-1)", x.count(-1), -1);
        check.due("shed(0, 0)", x.shed(0, 0), -2);
        check.due("stage(0, 0)", x.stage(0, 0), -1);
        check.due("undo()", x.undo(), false);
        check.due("heat(0, 0)", x.heat(0, 0), -1);
        check.due("light(0)", x.light(0), false);
        check.due("pull(0, 1)", x.pull(0, 1), -1);
        check.due("judged(1)", x.judged(1), -1);
        check.due("mark(0, true)", x.mark(0, true), false);
        check.due("news()", x.news(), 0);
        check.due("parts()", x.parts(), 0);
        check.due("plays(-1)", x.plays(-1), 0);
        check.due("night()", x.night(), 0);
        check.due("count(2)", x.count(2), 1);
        check.end();
    }
}
