/** Boundary cases of promises 6 and 20 to 24: stages. */
final class StageEdges {
    private StageEdges() {
    }

    /** Sheds that murmur so much behind one night (9 at most each), and stages that want so much. */
    private static MurmurSheds murmurs(Check check, String murmurs, String... wants) {
        StringBuilder text = new StringBuilder();
        for (int i = 0; i < murmurs.length(); i++) {
            text.append(Check.shed("s" + (char) ('a' + i), "plain", murmurs.charAt(i) - '0', 10));
        }
        for (int i = 0; i < wants.length; i++) {
            text.append("stage t").append((char) ('a' + i)).append(" wants ").append(wants[i]).append(';');
        }
        MurmurSheds x = check.of(text.toString());
        x.night();
        return x;
    }

    /** How many stages play, and which shed each of them is given. */
    private static void row(Check check, MurmurSheds x, int many, int... due) {
        check.due("plays(-1)", x.plays(-1), many);
        for (int i = 0; i < due.length; i++) {
            check.due("plays(" + i + ")", x.plays(i), due[i]);
        }
    }

    // ---- 6

    static void p06_noStage(Check check) {
        MurmurSheds x = murmurs(check, "5", "1 to 2", "3 to 4");
        for (int what = 0; what < 2; what++) {
            check.due("stage(-1, " + what + ")", x.stage(-1, what), -1);
            check.due("stage(2, " + what + ")", x.stage(2, what), -1);
            check.due("stage(0, " + what + ") of a new one", new MurmurSheds().stage(0, what), -1);
        }
    }

    static void p06_theLastStage(Check check) {
        MurmurSheds x = murmurs(check, "5", "1 to 2", "3 to 4");
        check.due("stage(1, 0)", x.stage(1, 0), 3);
        check.due("stage(1, 1)", x.stage(1, 1), 4);
    }

    static void p06_whatBelow0AndBeyond1(Check check) {
        MurmurSheds x = murmurs(check, "5", "7 to 8");
        check.due("stage(0, -1)", x.stage(0, -1), -1);
        check.due("stage(0, 0)", x.stage(0, 0), 7);
        check.due("stage(0, 1)", x.stage(0, 1), 8);
        check.due("stage(0, 2)", x.stage(0, 2), -1);
    }

    // ---- 20

    static void p20_fromTheFirstToTheSecondNumber(Check check) {
        MurmurSheds x = murmurs(check, "34567", "4 to 6");
        check.due("4, 5 and 6", x.had(0), 14);
    }

    static void p20_oneMurmurAlone(Check check) {
        check.due("5", murmurs(check, "456", "5 to 5").had(0), 2);
    }

    static void p20_none(Check check) {
        check.due("had", murmurs(check, "357", "4 to 4", "6 to 6").had(1), 0);
    }

    static void p20_all(Check check) {
        check.due("had", murmurs(check, "012345", "0 to 99").had(0), 63);
    }

    static void p20_silentOnes(Check check) {
        check.due("had", murmurs(check, "0102", "0 to 0").had(0), 5);
    }

    static void p20_oneWithoutCrownsIsSilent(Check check) {
        MurmurSheds x = murmurs(check, "99", "0 to 0");
        x.night();
        check.due("none", x.had(0), 0);
        x.pull(1, 10);
        check.due("had", x.had(0), 2);
    }

    static void p20_noSheds(Check check) {
        check.due("had", check.of("stage s wants 0 to 99;").had(0), 0);
    }

    static void p20_noStageForSilentOnes(Check check) {
        MurmurSheds x = check.of(Check.shed("a", "plain", 0, 1) + "stage s wants 1 to 1;");
        check.due("had(-1)", x.had(-1), -1);
        check.due("had(1)", x.had(1), -1);
        check.due("waits(-1)", x.waits(-1), -1);
        check.due("waits(1)", x.waits(1), -1);
        check.due("blend(-1)", x.blend(-1), -1);
        check.due("blend(1)", x.blend(1), -1);
        check.due("aim(1, 1, 0)", x.aim(1, 1, 0), -1);
        check.due("aim(-1, 1, 1)", x.aim(-1, 1, 1), -1);
    }

    static void p20_noStage(Check check) {
        MurmurSheds x = murmurs(check, "5", "0 to 99");
        check.due("had(-1)", x.had(-1), -1);
        check.due("had(1)", x.had(1), -1);
        check.due("had(0) of a new one", new MurmurSheds().had(0), -1);
    }

    // ---- 21

    static void p21_now(Check check) {
        check.due("waits", murmurs(check, "5", "5 to 5").waits(0), 0);
        check.due("waits", check.of(Check.shed("a", "plain", 9, 9) + "stage s wants 0 to 0;").waits(0), 0);
    }

    static void p21_behind60(Check check) {
        String text = Check.shed("a", "plain", 1, 10) + "roof 60;stage s wants 60 to 60;";
        check.due("waits", check.of(text).waits(0), 60);
    }

    static void p21_behind61(Check check) {
        MurmurSheds x = check.of(Check.shed("a", "plain", 1, 10) + "roof 60;stage s wants 60 to 60;");
        x.light(0);
        check.due("waits", x.waits(0), -1);
        x.night();
        check.due("waits by then", x.waits(0), 60);
    }

    static void p21_itGoesByWhatIsWanted(Check check) {
        // 9, 18, 27, 30.
        MurmurSheds x = check.of(Check.shed("a", "plain", 9, 10) + "stage s wants 19 to 26;stage t wants 19 to 27;");
        check.due("between", x.waits(0), -1);
        check.due("waits", x.waits(1), 3);
    }

    static void p21_anySheds(Check check) {
        MurmurSheds x = check.of(Check.shed("a", "plain", 1, 10) + Check.shed("b", "plain", 3, 10)
            + "stage s wants 9 to 9;");
        check.due("b by 3, a by 9", x.waits(0), 3);
    }

    static void p21_noSheds(Check check) {
        check.due("waits", check.of("stage s wants 0 to 0;").waits(0), -1);
    }

    static void p21_noStage(Check check) {
        MurmurSheds x = murmurs(check, "5", "0 to 99");
        check.due("waits(-1)", x.waits(-1), -1);
        check.due("waits(1)", x.waits(1), -1);
        check.due("waits(0) of a new one", new MurmurSheds().waits(0), -1);
    }

    // ---- 22

    static void p22_noStages(Check check) {
        row(check, murmurs(check, "55"), 0);
        check.due("plays(0)", murmurs(check, "55").plays(0), -2);
    }

    static void p22_noSheds(Check check) {
        row(check, check.of("stage s wants 0 to 99;stage t wants 0 to 0;"), 0, -1, -1);
    }

    static void p22_whatBelowNoneAndBeyondTheStages(Check check) {
        MurmurSheds x = murmurs(check, "5", "5 to 5", "5 to 5");
        check.due("plays(-2)", x.plays(-2), -2);
        check.due("plays(2)", x.plays(2), -2);
        check.due("plays(5)", x.plays(5), -2);
        check.due("plays(0) of a new one", new MurmurSheds().plays(0), -2);
    }

    static void p22_noneCanBeGiven(Check check) {
        row(check, murmurs(check, "55", "4 to 4", "6 to 9"), 0, -1, -1);
    }

    static void p22_oneShedToTwoStages(Check check) {
        row(check, murmurs(check, "5", "5 to 5", "5 to 5", "0 to 9"), 1, 0, -1, -1);
    }

    static void p22_twoShedsForOneStage(Check check) {
        row(check, murmurs(check, "355", "5 to 5"), 1, 1);
    }

    static void p22_theMostOfFive(Check check) {
        row(check, murmurs(check, "55555", "5 to 5", "5 to 5", "5 to 5", "5 to 5", "5 to 5"), 5, 0, 1, 2, 3, 4);
        row(check, murmurs(check, "555555", "5 to 5", "5 to 5", "5 to 5", "5 to 5", "5 to 5"), 5, 0, 1, 2, 3, 4);
    }

    static void p22_theMostGoesAheadOfTheFirstRow(Check check) {
        // The first stage could have either, the second one the first shed alone.
        row(check, murmurs(check, "56", "5 to 6", "5 to 5"), 2, 1, 0);
        row(check, murmurs(check, "345", "3 to 5", "3 to 4", "3 to 3"), 3, 2, 1, 0);
    }

    static void p22_noneComesBehindAllOthers(Check check) {
        // Either stage could have the shed: the first one is given it.
        row(check, murmurs(check, "5", "5 to 5", "4 to 5"), 1, 0, -1);
        row(check, murmurs(check, "44445", "5 to 5", "5 to 6"), 1, 4, -1);
    }

    static void p22_theFirstRowOfEqualOnes(Check check) {
        row(check, murmurs(check, "555", "5 to 5", "5 to 5"), 2, 0, 1);
        row(check, murmurs(check, "4535", "4 to 5", "5 to 5", "3 to 5"), 3, 0, 1, 2);
    }

    static void p22_aSilentOneMayBeGiven(Check check) {
        row(check, murmurs(check, "50", "0 to 0"), 1, 1);
    }

    // ---- 23

    static void p23_noStage(Check check) {
        MurmurSheds x = murmurs(check, "5", "0 to 99");
        check.due("blend(-1)", x.blend(-1), -1);
        check.due("blend(1)", x.blend(1), -1);
        check.due("blend(0) of a new one", new MurmurSheds().blend(0), -1);
    }

    static void p23_noSheds(Check check) {
        check.due("blend", check.of("stage s wants 0 to 99;").blend(0), -1);
    }

    static void p23_oneAtLeastThough0IsWanted(Check check) {
        check.due("a silent one", murmurs(check, "500", "0 to 0").blend(0), 2);
        check.due("none silent", murmurs(check, "555", "0 to 0").blend(0), -1);
    }

    static void p23_theFewest(Check check) {
        MurmurSheds x = murmurs(check, "1236", "6 to 6", "5 to 5", "7 to 7");
        check.due("one, not three", x.blend(0), 8);
        check.due("two", x.blend(1), 6);
        check.due("two", x.blend(2), 9);
    }

    static void p23_allSix(Check check) {
        MurmurSheds x = murmurs(check, "444444", "24 to 24", "25 to 99", "21 to 23");
        check.due("all", x.blend(0), 63);
        check.due("more than all", x.blend(1), -1);
        check.due("between five and six", x.blend(2), -1);
    }

    static void p23_ofEqualOnesTheLeastSet(Check check) {
        MurmurSheds x = murmurs(check, "3344", "7 to 7", "3 to 4", "8 to 8");
        check.due("the first and the third", x.blend(0), 5);
        check.due("the first", x.blend(1), 1);
        check.due("the last two", x.blend(2), 12);
    }

    static void p23_fromTheFirstToTheSecondNumber(Check check) {
        MurmurSheds x = murmurs(check, "5", "5 to 9", "0 to 5", "6 to 9", "0 to 4");
        check.due("the least it wants", x.blend(0), 1);
        check.due("the most it wants", x.blend(1), 1);
        check.due("one less", x.blend(2), -1);
        check.due("one more", x.blend(3), -1);
    }

    static void p23_onlyShedsWithCrowns(Check check) {
        MurmurSheds x = murmurs(check, "90", "0 to 0", "18 to 18");
        x.night();
        check.due("the loud one alone", x.blend(1), 1);
        x.pull(0, 10);
        check.due("the silent one that has crowns", x.blend(0), 2);
        MurmurSheds y = murmurs(check, "9", "0 to 0");
        y.night();
        y.pull(0, 10);
        check.due("none has crowns", y.blend(0), -1);
    }

    static void p23_99IsTheMostThatCanBeWanted(Check check) {
        String text = Check.shed("a", "plain", 9, 11) + Check.shed("b", "plain", 9, 20) + "roof 60;"
            + "stage s wants 60 to 99;";
        MurmurSheds x = check.of(text);
        check.nights(x, 7);
        check.due("66, not 120 nor 186", x.blend(0), 1);
    }

    // ---- 24

    static void p24_theLeastHeat(Check check) {
        MurmurSheds x = check.of(Check.shed("a", "plain", 9, 10) + "stage s wants 4 to 6;");
        check.due("heat", x.aim(0, 1, 0), 4);
        check.due("shed", x.aim(0, 1, 1), 0);
    }

    static void p24_heat0(Check check) {
        MurmurSheds x = check.of(Check.shed("a", "plain", 9, 10) + "stage s wants 0 to 0;");
        check.due("heat", x.aim(0, 20, 0), 0);
    }

    static void p24_heat9(Check check) {
        MurmurSheds x = check.of(Check.shed("a", "plain", 0, 10) + "stage s wants 9 to 9;stage t wants 10 to 10;");
        check.due("heat", x.aim(0, 1, 0), 9);
        check.due("more than 9 would do", x.aim(1, 1, 0), -1);
        check.due("more than 9 would do", x.aim(1, 1, 1), -1);
    }

    static void p24_behindOneAndTwentyNights(Check check) {
        MurmurSheds x = check.of(Check.shed("a", "plain", 0, 10) + "roof 60;stage s wants 1 to 1;stage t wants 20 to 20;");
        check.due("1", x.aim(0, 1, 0), 1);
        check.due("20", x.aim(1, 20, 0), 1);
        check.due("19", x.aim(1, 19, 0), -1);
    }

    static void p24_behindNoneAndTwentyOneNights(Check check) {
        MurmurSheds x = check.of(Check.shed("a", "plain", 0, 10) + "stage s wants 0 to 99;");
        for (int what = 0; what < 2; what++) {
            check.due("0", x.aim(0, 0, what), -1);
            check.due("-1", x.aim(0, -1, what), -1);
            check.due("21", x.aim(0, 21, what), -1);
        }
    }

    static void p24_ofEqualOnesTheFirst(Check check) {
        MurmurSheds x = check.of(Check.shed("a", "plain", 0, 5) + Check.shed("b", "plain", 0, 10)
            + Check.shed("c", "plain", 0, 10) + "stage s wants 3 to 3;");
        check.due("heat", x.aim(0, 1, 0), 3);
        check.due("b, not c", x.aim(0, 1, 1), 1);
    }

    static void p24_theLeastHeatGoesAheadOfTheFirstShed(Check check) {
        MurmurSheds x = check.of(Check.shed("a", "plain", 0, 5) + Check.shed("b", "plain", 0, 20)
            + "stage s wants 4 to 4;");
        check.due("heat", x.aim(0, 1, 0), 2);
        check.due("b by 2, a by 8", x.aim(0, 1, 1), 1);
    }

    static void p24_theShedThatIsHeatedItself(Check check) {
        // Unheated, b would murmur 9; what counts is the one that is heated.
        MurmurSheds x = check.of(Check.shed("a", "plain", 9, 5) + Check.shed("b", "plain", 9, 10)
            + "stage s wants 9 to 9;");
        check.due("heat", x.aim(0, 1, 0), 9);
        check.due("b", x.aim(0, 1, 1), 1);
    }

    static void p24_whatBelow0AndBeyond1(Check check) {
        MurmurSheds x = check.of(Check.shed("a", "plain", 0, 10) + "stage s wants 0 to 99;");
        check.due("aim(0, 1, -1)", x.aim(0, 1, -1), -1);
        check.due("aim(0, 1, 2)", x.aim(0, 1, 2), -1);
    }

    static void p24_noStage(Check check) {
        MurmurSheds x = check.of(Check.shed("a", "plain", 0, 10) + "stage s wants 0 to 99;");
        check.due("aim(-1, 1, 0)", x.aim(-1, 1, 0), -1);
        check.due("aim(1, 1, 0)", x.aim(1, 1, 0), -1);
        check.due("aim(0, 1, 0) of a new one", new MurmurSheds().aim(0, 1, 0), -1);
    }

    static void p24_noSheds(Check check) {
        MurmurSheds x = check.of("stage s wants 0 to 99;");
        check.due("heat", x.aim(0, 1, 0), -1);
        check.due("shed", x.aim(0, 1, 1), -1);
    }

    static void p24_aLitOne(Check check) {
        MurmurSheds x = check.of(Check.shed("a", "plain", 0, 10) + "stage s wants 9 to 9;");
        x.light(0);
        check.due("in one night", x.aim(0, 1, 0), -1);
        check.due("in two nights", x.aim(0, 2, 0), 9);
        check.due("it is lit yet", x.count(6), 1);
    }

    static void p24_nothingIsHeated(Check check) {
        MurmurSheds x = check.of(Check.shed("a", "plain", 0, 10) + "stage s wants 9 to 9;");
        x.aim(0, 1, 0);
        check.facts(x, 1, 0);
        check.facts(x, 3, 0);
        check.due("what can be undone", x.count(10), 0);
    }
}
