/** Boundary cases of promise 3: what a yard without a fault leaves of what was, and what one with a fault does. */
final class TellingEdges {
    private static final String YARD = Check.shed("a", "early", 4, 7) + Check.shed("b", "plain", 9, 20)
        + "near a b;stage s wants 0 to 9;frost 3 0;roof 40;grows warm+1;";
    private static final String NEXT = Check.shed("c", "plain", 2, 5) + Check.shed("d", "shy", 1, 6);

    private TellingEdges() {
    }

    /** A yard of which all can be said that a yard can have. */
    private static MurmurSheds lived(Check check) {
        MurmurSheds x = check.of(YARD);
        check.due("week", Check.week(x, "night;light a;night;"), 0);
        check.nights(x, 3);
        x.heat(0, 1);
        x.pull(1, 6);
        x.light(1);
        x.see(1, 1, false);
        x.mark(0, false);
        x.mark(3, false);
        return x;
    }

    private static MurmurSheds toldAnew(Check check) {
        MurmurSheds x = lived(check);
        check.due("yard", Check.yard(x, NEXT), 0);
        return x;
    }

    static void p03_aYardBeginsInNight0(Check check) {
        check.due("night", toldAnew(check).count(2), 0);
    }

    static void p03_aYardBegins0High(Check check) {
        check.facts(toldAnew(check), 3, 0, 0);
    }

    static void p03_aYardBeginsWithItsHeats(Check check) {
        check.facts(toldAnew(check), 1, 2, 1);
    }

    static void p03_aYardBeginsWithItsCrowns(Check check) {
        MurmurSheds x = toldAnew(check);
        check.facts(x, 2, 5, 6);
        check.due("of all", x.count(5), 11);
    }

    static void p03_aYardBeginsDark(Check check) {
        MurmurSheds x = toldAnew(check);
        check.facts(x, 4, 0, 0);
        check.due("lit", x.count(6), 0);
    }

    static void p03_aYardBeginsHavingHeardOfItself(Check check) {
        MurmurSheds x = toldAnew(check);
        check.due("heard(0)", x.heard(0), 1);
        check.due("heard(1)", x.heard(1), 2);
    }

    static void p03_aYardBeginsWithoutAWeek(Check check) {
        MurmurSheds x = toldAnew(check);
        check.due("lines", x.count(8), 0);
        check.due("judged(1)", x.judged(1), -1);
    }

    static void p03_aYardBeginsWithNothingSeen(Check check) {
        MurmurSheds x = toldAnew(check);
        check.due("seen", x.count(9), 0);
        check.due("who", x.who(), 3);
    }

    static void p03_aYardBeginsWithNothingToUndo(Check check) {
        MurmurSheds x = toldAnew(check);
        check.due("what can be undone", x.count(10), 0);
        check.due("undo", x.undo(), false);
        check.due("night", x.count(2), 0);
    }

    static void p03_aYardBeginsWithoutAMark(Check check) {
        MurmurSheds x = toldAnew(check);
        for (int mark = 0; mark < 4; mark++) {
            check.due("mark", x.mark(mark, true), false);
        }
    }

    static void p03_aYardBeginsWithoutTheOldOnesLines(Check check) {
        MurmurSheds x = toldAnew(check);
        check.due("sheds", x.count(0), 2);
        check.due("stages", x.count(1), 0);
        check.due("frost", x.count(3), 0);
        check.due("roof", x.count(4), 30);
        check.facts(x, 0, 0, 2);
        check.facts(x, 5, 0, 0);
        x.night();
        check.facts(x, 3, 2, 1);
    }

    static void p03_aYardOfNoLinesIsAYard(Check check) {
        MurmurSheds x = lived(check);
        check.due("yard", x.yard(), 0);
        int[] due = {0, 0, 0, 0, 30, 0, 0, 0, 0, 0, 0, 0};
        for (int what = 0; what < due.length; what++) {
            check.due("count(" + what + ")", x.count(what), due[what]);
        }
        check.due("no mark", x.mark(0, true), false);
        check.due("no shed", x.shed(0, 0), -2);
    }

    static void p03_theSameYardAgainBeginsAnew(Check check) {
        MurmurSheds x = lived(check);
        check.due("yard", Check.yard(x, YARD), 0);
        check.facts(x, 2, 7, 20);
        check.facts(x, 3, 0, 0);
        check.due("undo", x.undo(), false);
        check.due("its names are its own", Check.week(x, "light a;light b;"), 0);
    }

    static void p03_oneYardBehindAnother(Check check) {
        MurmurSheds x = lived(check);
        for (int n = 0; n < 3; n++) {
            check.due("yard", Check.yard(x, NEXT), 0);
            check.facts(x, 5, 0, 0);
            check.due("stages", x.count(1), 0);
            check.due("frost", x.count(3), 0);
            check.due("roof", x.count(4), 30);
            check.due("law", x.later(0, 1), 2);
            check.due("yard", Check.yard(x, YARD), 0);
            check.facts(x, 5, 2, 1);
            check.due("stages", x.count(1), 1);
            check.due("frost", x.count(3), 3);
            check.due("roof", x.count(4), 40);
            check.due("law", x.later(1, 1), 7);
        }
    }

    static void p03_aShorterLawBehindALongerOne(Check check) {
        MurmurSheds x = new MurmurSheds();
        for (String law : new String[] {"not 3", "not 3", "5", "1+2+3", "1+2+3", "5", "warm", "not 3", "tall+4"}) {
            check.due("yard", Check.yard(x, Check.shed("a", "plain", 7, 1) + "grows " + law + ";"), 0);
            int due = law.equals("not 3") ? 0 : law.equals("1+2+3") ? 6 : law.equals("warm") ? 7 : law.equals("5") ? 5 : 4;
            check.due("law " + law, x.later(0, 1), due);
        }
    }

    static void p03_aYardBehindFaultyOnes(Check check) {
        MurmurSheds x = lived(check);
        for (int n = 0; n < 3; n++) {
            String faulty = YARD + "roof";
            check.due("yard", Check.yard(x, faulty), 3 + 16 * (faulty.length() - 4));
            check.due("yard", Check.yard(x, NEXT), 0);
            check.facts(x, 5, 0, 0);
            check.due("stages", x.count(1), 0);
            check.due("roof", x.count(4), 30);
            check.due("reach", x.reach(0), 1);
        }
    }

    static void p03_aYardOfFewerShedsAndStages(Check check) {
        StringBuilder six = new StringBuilder("roof 60;grows 9;");
        for (char name = 'a'; name < 'g'; name++) {
            six.append(Check.shed("" + name, "plain", 9, 19)).append(name > 'a' ? "near a " + name + ";" : "");
        }
        for (char name = 't'; name < 'y'; name++) {
            six.append("stage ").append(name).append(" wants 0 to 99;");
        }
        MurmurSheds x = new MurmurSheds();
        for (int n = 0; n < 2; n++) {
            check.due("yard", Check.yard(x, six.toString()), 0);
            check.nights(x, 7);
        }
        check.due("yard", Check.yard(x, Check.shed("q", "wild", 1, 4)), 0);
        for (int n = 0; n < 3; n++) {
            check.due("none pops", x.night(), 0);
        }
        check.due("heard", x.heard(0), 1);
        check.facts(x, 3, 3);
        check.due("crowns", x.count(5), 4);
        check.due("riots", x.count(7), 0);
        check.due("yields", x.yields(0), 1);
        check.due("loud, tall", x.loud() + x.tall(), 0);
        check.due("parts", x.parts(), 1);
        check.due("who", x.who(), 1);
        check.due("ask", x.ask(), -1);
        check.due("stick", x.stick(), -1);
        check.due("first", x.first(), 0);
        check.due("roofed", x.roofed(), 27);
        check.due("news", x.news(), 0);
        check.due("plays", x.plays(-1), 0);
        check.due("no stage", x.had(0), -1);
    }

    // The fault is at the very end, when all of the new one has been read.
    private static MurmurSheds faulty(Check check) {
        MurmurSheds x = lived(check);
        check.yardFault(NEXT + "stage q wants 1 to 1;frost 9;roof 7;grows 9@", 1);
        String text = NEXT + "stage q wants 1 to 1;frost 9;roof 7;grows 9";
        check.due("yard", Check.yard(x, text), 1 + 16 * text.length());
        return x;
    }

    static void p03_aFaultLeavesTheSheds(Check check) {
        MurmurSheds x = faulty(check);
        check.due("sheds", x.count(0), 2);
        check.facts(x, 0, 1, 0);
        check.facts(x, 1, 1, 9);
        check.facts(x, 2, 7, 14);
        check.facts(x, 5, 2, 1);
    }

    static void p03_aFaultLeavesHowHighTheyAre(Check check) {
        // By frosts 3, 0, 3 a grows 2 + 1, 5 + 1, 2 + 1; b 7, 9 (of 10), 7.
        check.facts(faulty(check), 3, 12, 23);
    }

    static void p03_aFaultLeavesNightLightAndHearsay(Check check) {
        MurmurSheds x = faulty(check);
        check.due("night", x.count(2), 3);
        check.due("lit", x.count(6), 2);
        check.due("heard", x.heard(0), 3);
    }

    static void p03_aFaultLeavesStagesFrostRoofAndLaw(Check check) {
        MurmurSheds x = faulty(check);
        check.due("stages", x.count(1), 1);
        check.due("stage", x.stage(0, 1), 9);
        check.due("frost", x.count(3), 0);
        check.due("roof", x.count(4), 40);
        x.night();
        check.facts(x, 3, 14, 23);
    }

    static void p03_aFaultLeavesWeekSeenUndoAndMarks(Check check) {
        MurmurSheds x = faulty(check);
        check.due("week", x.count(8), 3);
        check.due("seen", x.count(9), 1);
        check.due("what can be undone", x.count(10), 6);
        check.due("undo", x.undo(), true);
        check.due("mark", x.mark(3, true), true);
        check.due("no mark", x.mark(1, true), false);
    }

    static void p03_aFaultLeavesTheNames(Check check) {
        MurmurSheds x = faulty(check);
        check.due("the old ones", Check.week(x, "light a;heat b 0;"), 0);
        check.weekFault(x, "light @c;", 2);
    }

    static void p03_aYardBehindAFaultyOne(Check check) {
        MurmurSheds x = faulty(check);
        check.due("yard", Check.yard(x, NEXT), 0);
        check.due("stages", x.count(1), 0);
        check.due("roof", x.count(4), 30);
        check.due("frost", x.count(3), 0);
        check.due("law", x.later(0, 1), 2);
    }

    static void p03_aFaultOnANewObjectLeavesNothing(Check check) {
        MurmurSheds x = new MurmurSheds();
        check.due("yard", Check.yard(x, NEXT + "roof 9;roof"), 3 + 16 * (NEXT.length() + 7));
        check.due("sheds", x.count(0), 0);
        check.due("roof", x.count(4), 30);
    }
}
