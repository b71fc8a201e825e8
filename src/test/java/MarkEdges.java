/** Boundary cases of promise 40: marks. */
final class MarkEdges {
    private MarkEdges() {
    }

    private static MurmurSheds yard(Check check) {
        return check.of(Check.shed("a", "plain", 5, 4) + Check.shed("b", "plain", 5, 4) + "near a b;");
    }

    static void p40_0To3(Check check) {
        MurmurSheds x = yard(check);
        for (int mark = 0; mark < 4; mark++) {
            check.due("laid", x.mark(mark, false), true);
            check.due("gone back to", x.mark(mark, true), true);
        }
    }

    static void p40_below0AndBeyond3(Check check) {
        MurmurSheds x = yard(check);
        for (boolean back : new boolean[] {false, true}) {
            check.due("mark(-1)", x.mark(-1, back), false);
            check.due("mark(4)", x.mark(4, back), false);
        }
    }

    static void p40_nothingIsOnIt(Check check) {
        MurmurSheds x = yard(check);
        x.mark(1, false);
        x.night();
        check.due("mark(0, true)", x.mark(0, true), false);
        check.due("mark(2, true)", x.mark(2, true), false);
        check.due("nothing is done", x.count(2), 1);
        check.due("it can be undone yet", x.count(10), 1);
    }

    static void p40_alsoWithoutAYard(Check check) {
        MurmurSheds x = new MurmurSheds();
        check.due("laid", x.mark(0, false), true);
        x.night();
        check.due("back", x.mark(0, true), true);
        check.due("night", x.count(2), 0);
    }

    static void p40_layingLeavesAllAsItIs(Check check) {
        MurmurSheds x = yard(check);
        x.night();
        x.light(0);
        x.see(1, 1, true);
        x.mark(0, false);
        int[] due = {2, 0, 1, 0, 30, 8, 1, 0, 0, 1, 2, 0};
        for (int what = 0; what < due.length; what++) {
            check.due("count(" + what + ")", x.count(what), due[what]);
        }
        check.due("undo", x.undo(), true);
        check.due("undo", x.undo(), true);
        check.due("night", x.count(2), 0);
    }

    static void p40_howItIs(Check check) {
        MurmurSheds x = yard(check);
        check.nights(x, 2);
        x.pull(0, 1);
        x.heat(1, 7);
        x.light(1);
        x.mark(0, false);
        check.nights(x, 3);
        x.pull(1, 4);
        x.heat(0, 0);
        x.light(0);
        check.due("back", x.mark(0, true), true);
        check.due("night", x.count(2), 2);
        check.facts(x, 1, 5, 7);
        check.facts(x, 2, 3, 4);
        check.facts(x, 3, 10, 10);
        check.facts(x, 4, 0, 1);
    }

    static void p40_whatIsHeard(Check check) {
        MurmurSheds x = yard(check);
        x.mark(0, false);
        x.night();
        x.mark(1, false);
        x.mark(0, true);
        check.due("heard", x.heard(0), 1);
        x.mark(1, true);
        check.due("heard", x.heard(0), 3);
    }

    static void p40_theWeek(Check check) {
        MurmurSheds x = yard(check);
        Check.week(x, "night;night;pull a 4;");
        x.mark(0, false);
        Check.week(x, "light a;light a;");
        x.mark(1, false);
        x.week();
        x.mark(0, true);
        check.due("lines", x.count(8), 3);
        check.due("crowns", x.judged(2), 4);
        x.mark(1, true);
        check.due("lines", x.count(8), 2);
        check.due("crowns", x.judged(2), 8);
        check.due("what can't be", x.judged(0), 1);
    }

    static void p40_eachLineOfTheWeek(Check check) {
        MurmurSheds x = yard(check);
        Check.week(x, "heat b 9;heat a 0;night;night;pull b 1;");
        x.mark(0, false);
        Check.week(x, "heat a 2;heat a 2;heat a 2;heat a 2;pull a 3;");
        x.mark(0, true);
        check.due("all can be", x.judged(0), -1);
        check.due("b pops", x.judged(1), 3);
        check.due("crowns", x.judged(2), 7);
    }

    static void p40_eachPartOfWhatIsSeen(Check check) {
        MurmurSheds x = yard(check);
        x.light(0);
        x.mark(3, false);
        x.see(1, 20, true);
        x.see(2, 21, false);
        x.mark(0, false);
        x.mark(3, true);
        x.see(1, 1, false);
        x.see(2, 1, true);
        check.due("a", x.who(), 1);
        x.mark(0, true);
        check.due("b", x.who(), 2);
        x.mark(3, true);
        check.due("both", x.who(), 3);
    }

    static void p40_theNightsOfWhatIsSeen(Check check) {
        MurmurSheds x = yard(check);
        x.light(0);
        x.mark(3, false);
        x.see(1, 1, true);
        x.mark(0, false);
        x.mark(3, true);
        x.see(2, 1, true);
        check.due("both", x.who(), 3);
        x.mark(0, true);
        check.due("b", x.who(), 2);
    }

    static void p40_theLastOf40Lines(Check check) {
        MurmurSheds x = yard(check);
        Check.week(x, "heat a 5;".repeat(39) + "pull a 1;");
        x.mark(3, false);
        Check.week(x, "night;".repeat(40));
        x.mark(3, true);
        check.due("what can't be", x.judged(0), 39);
    }

    static void p40_noWeek(Check check) {
        MurmurSheds x = yard(check);
        x.mark(0, false);
        Check.week(x, "light a;light a;");
        x.mark(0, true);
        check.due("lines", x.count(8), 0);
        check.due("what can't be", x.judged(0), -1);
    }

    static void p40_whatIsSeen(Check check) {
        MurmurSheds x = yard(check);
        x.light(0);
        x.mark(0, false);
        x.see(1, 1, true);
        x.mark(1, false);
        x.see(1, 1, false);
        check.due("none", x.who(), 0);
        x.mark(1, true);
        check.due("b", x.who(), 2);
        check.due("seen", x.count(9), 1);
        x.mark(0, true);
        check.due("both", x.who(), 3);
        check.due("seen", x.count(9), 0);
    }

    static void p40_eightThatAreSeen(Check check) {
        MurmurSheds x = yard(check);
        x.mark(0, false);
        for (int n = 0; n < 8; n++) {
            x.see(1, n < 7 ? 1 : 21, true);
        }
        x.mark(1, false);
        check.due("none", x.who(), 0);
        x.mark(0, true);
        check.due("there is room", x.see(1, 1, true), true);
        x.mark(1, true);
        check.due("there is none", x.see(1, 1, true), false);
        check.due("none", x.who(), 0);
    }

    static void p40_nothingCanBeUndoneWhenOneIsGoneBackTo(Check check) {
        MurmurSheds x = yard(check);
        check.nights(x, 3);
        x.mark(0, false);
        x.night();
        check.due("back", x.mark(0, true), true);
        check.due("what can be undone", x.count(10), 0);
        check.due("undo", x.undo(), false);
        check.due("night", x.count(2), 3);
        x.night();
        check.due("what is done then can", x.undo(), true);
        check.due("night", x.count(2), 3);
    }

    static void p40_backTwice(Check check) {
        MurmurSheds x = yard(check);
        x.night();
        x.mark(0, false);
        check.nights(x, 2);
        x.mark(0, true);
        check.nights(x, 5);
        check.due("back", x.mark(0, true), true);
        check.due("night", x.count(2), 1);
    }

    static void p40_laidAnew(Check check) {
        MurmurSheds x = yard(check);
        x.mark(0, false);
        x.night();
        x.mark(0, false);
        x.night();
        x.mark(0, true);
        check.due("night", x.count(2), 1);
    }

    static void p40_eachByItself(Check check) {
        MurmurSheds x = yard(check);
        for (int mark = 0; mark < 4; mark++) {
            x.mark(mark, false);
            x.night();
        }
        for (int mark : new int[] {2, 0, 3, 1}) {
            x.mark(mark, true);
            check.due("night", x.count(2), mark);
            check.facts(x, 3, 5 * mark);
        }
    }

    static void p40_undoneHandsLeaveThem(Check check) {
        MurmurSheds x = yard(check);
        x.night();
        x.mark(0, false);
        x.undo();
        check.due("night", x.count(2), 0);
        check.due("back", x.mark(0, true), true);
        check.due("night", x.count(2), 1);
    }

    static void p40_anotherYardTakesThem(Check check) {
        MurmurSheds x = yard(check);
        x.mark(0, false);
        check.due("yard", Check.yard(x, "roof 9;"), 0);
        check.due("mark(0, true)", x.mark(0, true), false);
        check.due("laid", x.mark(0, false), true);
        check.due("back", x.mark(0, true), true);
    }

    static void p40_aWeekLeavesThem(Check check) {
        MurmurSheds x = yard(check);
        x.mark(0, false);
        Check.week(x, "night;");
        check.due("back", x.mark(0, true), true);
    }
}
