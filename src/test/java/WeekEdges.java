/** Boundary cases of promise 4: the lines of a week. */
final class WeekEdges {
    private static final String YARD = Check.shed("a", "plain", 4, 5) + Check.shed("b", "plain", 4, 5)
        + "stage s wants 1 to 2;";

    private WeekEdges() {
    }

    private static void fine(Check check, String text, int lines) {
        MurmurSheds x = check.of(YARD);
        check.due("week " + text, Check.week(x, text), 0);
        check.due("lines", x.count(8), lines);
    }

    private static void fault(Check check, String text, int kind) {
        check.weekFault(check.of(YARD), text, kind);
    }

    static void p04_aWeekOfNoLines(Check check) {
        fine(check, "", 0);
        fine(check, " \n ", 0);
    }

    static void p04_aWeekOfEachLine(Check check) {
        fine(check, "night;heat a 4;light b;pull a 1;", 4);
    }

    static void p04_fortyLines(Check check) {
        fine(check, "night;".repeat(39), 39);
        fine(check, "night;".repeat(40), 40);
        fine(check, "pull a 1;".repeat(40), 40);
    }

    static void p04_theFirstWordOfA41stLine(Check check) {
        String forty = "light a;".repeat(40);
        fault(check, forty + "@night;", 5);
        fault(check, forty + "@heat a 1;", 5);
        fault(check, forty + "@light a;", 5);
        fault(check, forty + "@pull a 1;", 5);
        fault(check, forty + "@night", 5);
    }

    static void p04_a41stLineThatIsNoneIsWrongTheLeast(Check check) {
        String forty = "light a;".repeat(40);
        fault(check, forty + "@;", 1);
        fault(check, forty + "@rest;", 1);
        fault(check, forty + "@shed;", 1);
        fault(check, forty + "@7;", 1);
        fault(check, forty + "@abcdefghi;", 1);
    }

    static void p04_aFaultInThe40thLine(Check check) {
        fault(check, "night;".repeat(39) + "heat a @10;night;night;", 4);
    }

    static void p04_heat0And9(Check check) {
        fine(check, "heat a 0;heat a 9;", 2);
    }

    static void p04_heat10(Check check) {
        fault(check, "heat a @10;", 4);
    }

    static void p04_pull1And20(Check check) {
        fine(check, "pull a 1;pull a 20;", 2);
    }

    static void p04_pull0(Check check) {
        fault(check, "pull a @0;", 4);
    }

    static void p04_pull21(Check check) {
        fault(check, "pull a @21;", 4);
    }

    static void p04_moreCrownsThanThereAreMayBeTold(Check check) {
        fine(check, "pull a 6;light a;light a;", 3);
    }

    static void p04_aNameThatIsNotTold(Check check) {
        fault(check, "heat @c 1;", 2);
        fault(check, "light @c;", 2);
        fault(check, "pull @c 1;", 2);
    }

    static void p04_aStageIsNoShed(Check check) {
        fault(check, "heat @s 1;", 2);
        fault(check, "light @s;", 2);
        fault(check, "pull @s 1;", 2);
    }

    static void p04_aReservedWordIsNoName(Check check) {
        for (String word : "shed heat crowns near stage wants to frost roof grows night light pull plain not".split(" ")) {
            fault(check, "heat @" + word + " 1;", 1);
            fault(check, "light @" + word + ";", 1);
            fault(check, "pull @" + word + " 1;", 1);
        }
    }

    static void p04_aFactIsNoShed(Check check) {
        fault(check, "light @warm;", 2);
    }

    static void p04_whatIsMissing(Check check) {
        fault(check, "heat@", 1);
        fault(check, "heat @;", 1);
        fault(check, "heat a@;", 1);
        fault(check, "heat a 1@", 1);
        fault(check, "light@;", 1);
        fault(check, "light a@", 1);
        fault(check, "pull @1;", 1);
        fault(check, "pull a@;", 1);
        fault(check, "night@", 1);
    }

    static void p04_whatIsTooMuch(Check check) {
        fault(check, "night @night;", 1);
        fault(check, "night @1;", 1);
        fault(check, "heat a 1 @1;", 1);
        fault(check, "light a @b;", 1);
        fault(check, "light a @1;", 1);
        fault(check, "pull a 1 @b;", 1);
        fault(check, "night;@;", 1);
    }

    static void p04_aLineOfAYardIsNone(Check check) {
        for (String word : "shed near stage frost roof grows".split(" ")) {
            fault(check, "night;@" + word, 1);
        }
    }

    static void p04_theEndIsAtTheTextsLength(Check check) {
        fault(check, "night; light a \n @", 1);
        fault(check, " ".repeat(992) + "night   @", 1);
    }

    static void p04_tokensAreReadAsInAYard(Check check) {
        fine(check, "heat a 0001;heat\na\n2\n;", 2);
        fault(check, "heat a @00001;", 1);
        fault(check, "light @abcdefghi;", 1);
        fault(check, "@Night;", 1);
    }

    static void p04_withoutAYardThereAreNights(Check check) {
        MurmurSheds x = new MurmurSheds();
        check.due("week", Check.week(x, "night;night;"), 0);
        check.due("lines", x.count(8), 2);
        check.weekFault(x, "night;light @a;", 2);
    }

    static void p04_aWeekTakesThePlaceOfTheOneAhead(Check check) {
        MurmurSheds x = check.of(YARD);
        check.due("week", Check.week(x, "night;night;night;pull a 5;"), 0);
        check.due("crowns", x.judged(2), 5);
        check.due("week", Check.week(x, "light a;"), 0);
        check.due("lines", x.count(8), 1);
        check.due("crowns", x.judged(2), 10);
        check.due("week", x.week(), 0);
        check.due("lines", x.count(8), 0);
    }

    static void p04_aFaultLeavesTheWeekAhead(Check check) {
        MurmurSheds x = check.of(YARD);
        check.due("week", Check.week(x, "night;night;night;pull a 5;"), 0);
        check.weekFault(x, "night;light a;light a;night;night;pull b @0;", 4);
        check.due("lines", x.count(8), 4);
        check.due("none that can't be", x.judged(0), -1);
        check.due("crowns", x.judged(2), 5);
    }

    static void p04_aWeekChangesNothingElse(Check check) {
        MurmurSheds x = check.of(YARD);
        x.night();
        x.see(1, 1, true);
        x.mark(2, false);
        check.due("week", Check.week(x, "night;heat a 9;light b;"), 0);
        check.due("night", x.count(2), 1);
        check.facts(x, 1, 4, 4);
        check.facts(x, 3, 4, 4);
        check.due("lit", x.count(6), 0);
        check.due("seen", x.count(9), 1);
        check.due("what can be undone", x.count(10), 1);
        check.due("mark", x.mark(2, true), true);
    }
}
