/** Boundary cases of promise 12: a week, judged. */
final class JudgedEdges {
    private static final String YARD = Check.shed("a", "plain", 9, 20) + Check.shed("b", "early", 9, 3)
        + Check.shed("c", "plain", 0, 2);

    private JudgedEdges() {
    }

    /** What the week comes to: the line that can't be, the one by which one pops, and the crowns. */
    private static void due(Check check, String week, int wrong, int pops, int crowns) {
        MurmurSheds x = check.of(YARD);
        check.due("week " + week, Check.week(x, week), 0);
        check.due("judged(0) of " + week, x.judged(0), wrong);
        check.due("judged(1) of " + week, x.judged(1), pops);
        check.due("judged(2) of " + week, x.judged(2), crowns);
    }

    static void p12_noLines(Check check) {
        due(check, "", -1, -1, 25);
        MurmurSheds x = check.of(YARD);
        check.due("no week", x.judged(0), -1);
        check.due("no week", x.judged(1), -1);
        check.due("no week", x.judged(2), 25);
    }

    static void p12_noYard(Check check) {
        MurmurSheds x = new MurmurSheds();
        Check.week(x, "night;night;");
        check.due("judged(0)", x.judged(0), -1);
        check.due("judged(1)", x.judged(1), -1);
        check.due("judged(2)", x.judged(2), 0);
    }

    static void p12_whatBelow0AndBeyond2(Check check) {
        MurmurSheds x = check.of(YARD);
        check.due("judged(-1)", x.judged(-1), -2);
        check.due("judged(3)", x.judged(3), -2);
        check.due("judged(-2)", x.judged(-2), -2);
    }

    static void p12_theFirstLineCantBe(Check check) {
        due(check, "pull a 1;", 0, -1, 25);
        due(check, "pull a 1;pull a 1;night;", 0, 2, 25);
    }

    static void p12_theLastOf40CantBe(Check check) {
        due(check, "heat c 0;".repeat(39) + "pull c 1;", 39, -1, 25);
    }

    static void p12_itPopsByTheLastOf40(Check check) {
        due(check, "heat a 9;".repeat(39) + "night;", -1, 39, 25);
    }

    static void p12_itPopsByTheFirstLine(Check check) {
        due(check, "night;", -1, 0, 25);
    }

    static void p12_eachShedMayPopFirst(Check check) {
        due(check, "heat b 0;night;night;", -1, 2, 25);
        due(check, "heat a 0;heat b 0;heat c 5;night;night;", -1, 4, 25);
    }

    static void p12_nonePops(Check check) {
        due(check, "light a;light b;night;", -1, -1, 25);
        due(check, "heat b 8;night;", -1, -1, 25);
    }

    static void p12_theFirstOfTwoThatPop(Check check) {
        due(check, "light b;night;night;night;", -1, 2, 25);
    }

    static void p12_aNightAndHeatAlwaysCan(Check check) {
        due(check, "heat a 9;heat a 9;heat a 9;night;night;heat a 9;", -1, 3, 25);
    }

    static void p12_aLitOneCantBeLit(Check check) {
        due(check, "light a;light a;", 1, -1, 25);
        due(check, "light a;night;light a;", -1, 1, 25);
        due(check, "light a;light b;light a;light b;", 2, -1, 25);
    }

    static void p12_9HighCantBePulled(Check check) {
        due(check, "night;pull b 1;pull a 1;", 2, 0, 24);
    }

    static void p12_moreThanThereAreCantBePulled(Check check) {
        due(check, "night;pull b 4;pull b 3;", 1, 0, 22);
        due(check, "night;pull b 3;pull b 1;", 2, 0, 22);
    }

    static void p12_whatCantBeIsLeftOut(Check check) {
        due(check, "pull a 1;night;pull a 1;night;pull a 20;", 0, 1, 5);
        due(check, "light a;light a;night;night;pull a 20;", 1, 2, 25);
    }

    static void p12_onlyTheFirstThatCantBeIsTold(Check check) {
        due(check, "night;pull c 1;pull c 1;night;pull c 1;", 1, 0, 25);
    }

    static void p12_allAreLeftOutOrPulled(Check check) {
        due(check, "heat c 9;night;night;pull a 20;pull b 3;pull c 2;", -1, 1, 0);
    }

    static void p12_fromTheBeginningWhateverWasDone(Check check) {
        MurmurSheds x = check.of(YARD);
        Check.week(x, "light b;night;night;pull a 5;");
        check.nights(x, 3);
        x.pull(0, 20);
        x.heat(1, 0);
        x.light(1);
        check.due("judged(0)", x.judged(0), -1);
        check.due("judged(1)", x.judged(1), 2);
        check.due("judged(2)", x.judged(2), 20);
    }

    static void p12_judgingDoesNothing(Check check) {
        MurmurSheds x = check.of(YARD);
        Check.week(x, "light b;night;night;pull a 5;");
        for (int what = -1; what < 4; what++) {
            x.judged(what);
        }
        check.due("night", x.count(2), 0);
        check.due("crowns", x.count(5), 25);
        check.due("lit", x.count(6), 0);
        check.due("what can be undone", x.count(10), 0);
        check.facts(x, 3, 0, 0, 0);
    }
}
