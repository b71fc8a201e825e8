/** Boundary cases of promises 8 to 11: heat, light, pulling, undone. */
final class HandEdges {
    private HandEdges() {
    }

    /** Two sheds, 18 and 8 high. */
    private static MurmurSheds grown(Check check) {
        MurmurSheds x = check.of(Check.shed("a", "plain", 9, 20) + Check.shed("b", "plain", 4, 3));
        check.nights(x, 2);
        return x;
    }

    // ---- 8

    static void p08_heatTo0And9(Check check) {
        MurmurSheds x = grown(check);
        check.due("heat(1, 0)", x.heat(1, 0), 4);
        check.due("heat(1, 9)", x.heat(1, 9), 0);
        check.facts(x, 1, 9, 9);
    }

    static void p08_heatBelow0(Check check) {
        MurmurSheds x = grown(check);
        check.due("heat(1, -1)", x.heat(1, -1), -1);
        check.facts(x, 1, 9, 4);
    }

    static void p08_heatBeyond9(Check check) {
        MurmurSheds x = grown(check);
        check.due("heat(1, 10)", x.heat(1, 10), -1);
        check.facts(x, 1, 9, 4);
    }

    static void p08_heatOfNoShed(Check check) {
        MurmurSheds x = grown(check);
        check.due("heat(-1, 1)", x.heat(-1, 1), -1);
        check.due("heat(2, 1)", x.heat(2, 1), -1);
        check.due("heat(0, 1) of a new one", new MurmurSheds().heat(0, 1), -1);
    }

    static void p08_theSameHeat(Check check) {
        MurmurSheds x = grown(check);
        check.due("heat(1, 4)", x.heat(1, 4), 4);
        check.due("it can be undone", x.count(10), 3);
    }

    static void p08_whatIsRefusedCantBeUndone(Check check) {
        MurmurSheds x = grown(check);
        x.heat(0, 10);
        x.heat(0, -1);
        x.heat(2, 1);
        check.due("what can be undone", x.count(10), 2);
    }

    static void p08_oneWithoutCrownsIsHeated(Check check) {
        MurmurSheds x = grown(check);
        x.pull(0, 20);
        check.due("heat(0, 2)", x.heat(0, 2), 9);
        check.facts(x, 1, 2, 4);
    }

    // ---- 9

    static void p09_aDarkOne(Check check) {
        MurmurSheds x = grown(check);
        check.due("light(1)", x.light(1), true);
        check.due("lit", x.count(6), 2);
    }

    static void p09_aLitOne(Check check) {
        MurmurSheds x = grown(check);
        x.light(1);
        check.due("light(1)", x.light(1), false);
        check.due("it is lit yet", x.count(6), 2);
        check.due("what can be undone", x.count(10), 3);
    }

    static void p09_noShed(Check check) {
        MurmurSheds x = grown(check);
        check.due("light(-1)", x.light(-1), false);
        check.due("light(2)", x.light(2), false);
        check.due("light(31)", x.light(31), false);
        check.due("light(32)", x.light(32), false);
        check.due("none is lit", x.count(6), 0);
        check.due("what can be undone", x.count(10), 2);
        check.due("light(0) of a new one", new MurmurSheds().light(0), false);
    }

    static void p09_oneThatIsDarkAgain(Check check) {
        MurmurSheds x = grown(check);
        x.light(0);
        x.night();
        check.due("light(0)", x.light(0), true);
    }

    static void p09_oneWithoutCrowns(Check check) {
        MurmurSheds x = grown(check);
        x.pull(0, 20);
        check.due("light(0)", x.light(0), true);
        check.due("lit", x.count(6), 1);
    }

    // ---- 10

    static void p10_one(Check check) {
        MurmurSheds x = grown(check);
        check.due("pull(0, 1)", x.pull(0, 1), 19);
        check.facts(x, 2, 19, 3);
        check.facts(x, 3, 18, 8);
    }

    static void p10_twenty(Check check) {
        MurmurSheds x = grown(check);
        check.due("pull(0, 20)", x.pull(0, 20), 0);
        check.facts(x, 2, 0, 3);
    }

    static void p10_noneLeftIs0High(Check check) {
        MurmurSheds x = grown(check);
        x.pull(0, 19);
        check.facts(x, 3, 18, 8);
        x.pull(0, 1);
        check.facts(x, 3, 0, 8);
    }

    static void p10_noCrowns(Check check) {
        MurmurSheds x = grown(check);
        check.due("pull(0, 0)", x.pull(0, 0), -1);
        check.due("pull(0, -1)", x.pull(0, -1), -1);
        check.facts(x, 2, 20, 3);
    }

    static void p10_twentyOne(Check check) {
        MurmurSheds x = grown(check);
        check.due("pull(0, 21)", x.pull(0, 21), -1);
        check.facts(x, 2, 20, 3);
    }

    static void p10_asManyAsThereAre(Check check) {
        MurmurSheds x = grown(check);
        x.pull(0, 13);
        check.due("pull(0, 8)", x.pull(0, 8), -1);
        check.due("pull(0, 7)", x.pull(0, 7), 0);
    }

    static void p10_9High(Check check) {
        MurmurSheds x = check.of(Check.shed("a", "plain", 9, 2));
        x.night();
        check.due("pull(0, 1)", x.pull(0, 1), -1);
        check.facts(x, 2, 2);
    }

    static void p10_10High(Check check) {
        MurmurSheds x = check.of(Check.shed("a", "early", 9, 2));
        x.night();
        check.due("pull(0, 1)", x.pull(0, 1), 1);
    }

    static void p10_aLitOne(Check check) {
        MurmurSheds x = grown(check);
        x.light(0);
        check.due("pull(0, 1)", x.pull(0, 1), 19);
    }

    static void p10_oneWithoutCrowns(Check check) {
        MurmurSheds x = grown(check);
        x.pull(0, 20);
        check.due("pull(0, 1)", x.pull(0, 1), -1);
        check.due("pull(0, 0)", x.pull(0, 0), -1);
    }

    static void p10_noShed(Check check) {
        MurmurSheds x = grown(check);
        check.due("pull(-1, 1)", x.pull(-1, 1), -1);
        check.due("pull(2, 1)", x.pull(2, 1), -1);
        check.due("pull(0, 1) of a new one", new MurmurSheds().pull(0, 1), -1);
    }

    static void p10_whatIsRefusedCantBeUndone(Check check) {
        MurmurSheds x = grown(check);
        x.pull(0, 21);
        x.pull(0, 0);
        x.pull(1, 1);
        x.pull(2, 1);
        check.due("what can be undone", x.count(10), 2);
    }

    // ---- 11

    static void p11_nothing(Check check) {
        check.due("undo", new MurmurSheds().undo(), false);
        check.due("undo", check.of(Check.shed("a", "plain", 1, 1)).undo(), false);
    }

    static void p11_aNight(Check check) {
        MurmurSheds x = grown(check);
        x.light(0);
        x.night();
        check.due("undo", x.undo(), true);
        check.due("night", x.count(2), 2);
        check.due("lit", x.count(6), 1);
        check.facts(x, 3, 18, 8);
    }

    static void p11_hearsay(Check check) {
        MurmurSheds x = check.of(Check.shed("a", "plain", 1, 1) + Check.shed("b", "plain", 1, 1) + "near a b;");
        x.night();
        check.due("heard", x.heard(0), 3);
        x.undo();
        check.due("heard", x.heard(0), 1);
    }

    static void p11_heat(Check check) {
        MurmurSheds x = grown(check);
        x.heat(1, 0);
        check.due("undo", x.undo(), true);
        check.facts(x, 1, 9, 4);
    }

    static void p11_light(Check check) {
        MurmurSheds x = grown(check);
        x.light(1);
        check.due("undo", x.undo(), true);
        check.due("lit", x.count(6), 0);
    }

    static void p11_pull(Check check) {
        MurmurSheds x = grown(check);
        x.pull(0, 20);
        check.due("undo", x.undo(), true);
        check.facts(x, 2, 20, 3);
        check.facts(x, 3, 18, 8);
    }

    static void p11_sixteenInARow(Check check) {
        MurmurSheds x = check.of(Check.shed("a", "plain", 1, 1));
        check.nights(x, 16);
        for (int night = 15; night >= 0; night--) {
            check.due("undo", x.undo(), true);
            check.due("night", x.count(2), night);
        }
        check.due("undo", x.undo(), false);
    }

    static void p11_theSeventeenthIsLost(Check check) {
        MurmurSheds x = check.of(Check.shed("a", "plain", 1, 1));
        check.nights(x, 17);
        for (int n = 16; n > 0; n--) {
            check.due("what can be undone", x.count(10), n);
            check.due("undo", x.undo(), true);
        }
        check.due("undo", x.undo(), false);
        check.due("night", x.count(2), 1);
    }

    static void p11_farMoreThanSixteen(Check check) {
        MurmurSheds x = check.of(Check.shed("a", "plain", 1, 1));
        check.nights(x, 100);
        for (int n = 0; n < 20; n++) {
            check.due("undo", x.undo(), n < 16);
        }
        check.due("night", x.count(2), 84);
        check.nights(x, 2);
        check.due("what can be undone", x.count(10), 2);
        x.undo();
        check.due("night", x.count(2), 85);
    }

    static void p11_undoneAndDoneAgain(Check check) {
        MurmurSheds x = check.of(Check.shed("a", "plain", 1, 1));
        x.heat(0, 2);
        x.heat(0, 3);
        x.undo();
        x.heat(0, 4);
        x.undo();
        check.facts(x, 1, 2);
        x.undo();
        check.facts(x, 1, 1);
        check.due("undo", x.undo(), false);
    }

    static void p11_whatIsUndoneIsNotUndoneAgain(Check check) {
        MurmurSheds x = grown(check);
        x.undo();
        x.undo();
        check.due("undo", x.undo(), false);
        check.due("night", x.count(2), 0);
    }

    static void p11_askingIsNotDoing(Check check) {
        MurmurSheds x = grown(check);
        x.later(0, 60);
        x.weeks(3, 99, 0);
        x.aim(0, 20, 0);
        x.judged(0);
        x.chance(0, 6, 5);
        x.ask();
        x.mark(0, false);
        x.see(1, 1, true);
        Check.week(x, "night;");
        check.due("what can be undone", x.count(10), 2);
    }

    static void p11_weekSeenMarkAndTapeStay(Check check) {
        MurmurSheds x = grown(check);
        x.see(1, 1, true);
        Check.week(x, "night;");
        x.mark(0, false);
        Check.tell(x, "roof");
        x.undo();
        check.due("seen", x.count(9), 1);
        check.due("week", x.count(8), 1);
        check.due("tape", x.count(11), 4);
        check.due("mark", x.mark(0, true), true);
        check.due("night", x.count(2), 2);
    }
}
