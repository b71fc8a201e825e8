/** Boundary cases of promises 13 to 17, 19 and 32: what comes if nothing else is done. */
final class AheadEdges {
    private AheadEdges() {
    }

    /** One plain shed of heat 1, so that it is as high as nights have gone by, up to the roof. */
    private static MurmurSheds slow(Check check, int crowns, String more) {
        return check.of(Check.shed("a", "plain", 1, crowns) + more);
    }

    // ---- 13

    static void p13_behindNoNights(Check check) {
        MurmurSheds x = slow(check, 1, "");
        check.due("later(0, 0)", x.later(0, 0), 0);
        check.nights(x, 7);
        check.due("later(0, 0)", x.later(0, 0), 7);
    }

    static void p13_behind60Nights(Check check) {
        MurmurSheds x = slow(check, 1, "roof 60;");
        check.due("later(0, 59)", x.later(0, 59), 59);
        check.due("later(0, 60)", x.later(0, 60), 60);
    }

    static void p13_behind61Nights(Check check) {
        check.due("later(0, 61)", slow(check, 1, "").later(0, 61), -1);
    }

    static void p13_behindFewerThanNone(Check check) {
        check.due("later(0, -1)", slow(check, 1, "").later(0, -1), -1);
    }

    static void p13_noShed(Check check) {
        MurmurSheds x = slow(check, 1, "");
        check.due("later(1, 0)", x.later(1, 0), -1);
        check.due("later(-1, 0)", x.later(-1, 0), -1);
        check.due("later(0, 0) of a new one", new MurmurSheds().later(0, 0), -1);
    }

    static void p13_upToTheRoof(Check check) {
        MurmurSheds x = slow(check, 1, "roof 5;");
        check.due("later(0, 5)", x.later(0, 5), 5);
        check.due("later(0, 6)", x.later(0, 6), 5);
    }

    static void p13_lightLastsOneNight(Check check) {
        MurmurSheds x = slow(check, 1, "");
        x.light(0);
        check.due("later(0, 1)", x.later(0, 1), 0);
        check.due("later(0, 2)", x.later(0, 2), 1);
    }

    static void p13_nothingElseIsDone(Check check) {
        MurmurSheds x = slow(check, 1, "");
        x.light(0);
        x.later(0, 60);
        check.due("night", x.count(2), 0);
        check.due("lit", x.count(6), 1);
        check.facts(x, 3, 0);
    }

    // ---- 14

    static void p14_theFirstNight(Check check) {
        check.due("creak(0, 1)", slow(check, 7, "").creak(0, 1), 7);
    }

    static void p14_noNight(Check check) {
        MurmurSheds x = slow(check, 7, "");
        check.nights(x, 1);
        check.due("creak(0, 0)", x.creak(0, 0), -1);
        check.due("creak(0, -1)", x.creak(0, -1), -1);
    }

    static void p14_the60thNight(Check check) {
        MurmurSheds x = slow(check, 7, "roof 60;");
        check.due("creak(0, 60)", x.creak(0, 60), 7);
        x.night();
        check.due("creak(0, 59)", x.creak(0, 59), 7);
        check.due("at the roof", x.creak(0, 60), 0);
    }

    static void p14_the61stNight(Check check) {
        check.due("creak(0, 61)", slow(check, 7, "roof 60;").creak(0, 61), -1);
    }

    static void p14_noShed(Check check) {
        MurmurSheds x = slow(check, 7, "");
        check.due("creak(1, 1)", x.creak(1, 1), -1);
        check.due("creak(-1, 1)", x.creak(-1, 1), -1);
        check.due("creak(0, 1) of a new one", new MurmurSheds().creak(0, 1), -1);
    }

    static void p14_onlyUpToTheRoof(Check check) {
        MurmurSheds x = check.of(Check.shed("a", "plain", 9, 20) + "roof 10;");
        check.due("creak(0, 1)", x.creak(0, 1), 180);
        check.due("creak(0, 2)", x.creak(0, 2), 20);
        check.due("creak(0, 3)", x.creak(0, 3), 0);
    }

    static void p14_aLitOneDoesNot(Check check) {
        MurmurSheds x = slow(check, 7, "");
        x.light(0);
        check.due("creak(0, 1)", x.creak(0, 1), 0);
        check.due("creak(0, 2)", x.creak(0, 2), 7);
    }

    static void p14_oneWithoutCrownsDoesNot(Check check) {
        MurmurSheds x = slow(check, 7, "");
        check.nights(x, 10);
        x.pull(0, 7);
        check.due("creak(0, 1)", x.creak(0, 1), 0);
    }

    // ---- 15

    static void p15_inTheNextNight(Check check) {
        MurmurSheds x = slow(check, 1, "");
        check.nights(x, 9);
        check.due("pops(0)", x.pops(0), 1);
    }

    static void p15_inThe60thNight(Check check) {
        check.due("pops(0)", slow(check, 1, "grows (date<9)+(date=59);").pops(0), 60);
    }

    static void p15_inThe61stNight(Check check) {
        MurmurSheds x = slow(check, 1, "grows (date<9)+(date=60);");
        check.due("pops(0)", x.pops(0), -1);
        x.night();
        check.due("pops(0) by then", x.pops(0), 60);
    }

    static void p15_10HighAlready(Check check) {
        MurmurSheds x = slow(check, 1, "");
        check.nights(x, 10);
        check.due("pops(0)", x.pops(0), -1);
    }

    static void p15_belowARoofOf9(Check check) {
        check.due("pops(0)", slow(check, 1, "roof 9;").pops(0), -1);
        check.due("pops(0)", slow(check, 1, "roof 10;").pops(0), 10);
    }

    static void p15_eachByItself(Check check) {
        MurmurSheds x = check.of(Check.shed("a", "plain", 9, 1) + Check.shed("b", "plain", 1, 1)
            + Check.shed("c", "plain", 5, 1) + Check.shed("d", "plain", 0, 1) + Check.shed("e", "early", 9, 1)
            + Check.shed("f", "plain", 4, 1));
        int[] due = {2, 10, 2, -1, 1, 3};
        for (int i = 0; i < due.length; i++) {
            check.due("pops(" + i + ")", x.pops(i), due[i]);
        }
    }

    static void p15_noShed(Check check) {
        MurmurSheds x = slow(check, 1, "");
        check.due("pops(1)", x.pops(1), -1);
        check.due("pops(-1)", x.pops(-1), -1);
        check.due("pops(32)", x.pops(32), -1);
        check.due("pops(0) of a new one", new MurmurSheds().pops(0), -1);
    }

    // ---- 16

    static void p16_noneBy60(Check check) {
        check.due("first", new MurmurSheds().first(), -1);
        check.due("first", slow(check, 1, "grows 0;").first(), -1);
        check.due("first", slow(check, 1, "grows (date<9)+(date=60);").first(), -1);
    }

    static void p16_inThe60th(Check check) {
        check.due("first", slow(check, 1, "grows (date<9)+(date=59);").first(), 0);
    }

    static void p16_ofEqualOnesTheFirst(Check check) {
        MurmurSheds x = check.of(Check.shed("a", "plain", 0, 1) + Check.shed("b", "plain", 5, 1)
            + Check.shed("c", "plain", 9, 1) + Check.shed("d", "plain", 5, 1));
        check.due("first", x.first(), 1);
        x.light(1);
        check.due("first", x.first(), 2);
    }

    static void p16_theSoonestIsTheLast(Check check) {
        MurmurSheds x = check.of(Check.shed("a", "plain", 1, 1) + Check.shed("b", "plain", 2, 1)
            + Check.shed("c", "plain", 3, 1) + Check.shed("d", "plain", 4, 1) + Check.shed("e", "plain", 4, 1)
            + Check.shed("f", "plain", 5, 1));
        check.due("first", x.first(), 5);
    }

    static void p16_whoPoppedAlreadyDoesNotAgain(Check check) {
        MurmurSheds x = check.of(Check.shed("a", "plain", 9, 1) + Check.shed("b", "plain", 1, 1));
        check.nights(x, 2);
        check.due("first", x.first(), 1);
        check.nights(x, 8);
        check.due("first", x.first(), -1);
    }

    // ---- 17

    static void p17_now(Check check) {
        MurmurSheds x = slow(check, 20, "roof 60;");
        check.nights(x, 30);
        check.due("60 is one", x.riot(0), 0);
    }

    static void p17_59IsNone(Check check) {
        MurmurSheds x = slow(check, 20, "roof 60;");
        check.nights(x, 29);
        check.due("58", x.riot(0), 1);
        check.due("riots", x.count(7), 0);
        MurmurSheds y = slow(check, 17, "roof 35;");
        check.due("35 * 17 is 595", y.riot(0), -1);
        check.due("36 * 17 is 612", slow(check, 17, "roof 36;").riot(0), 36);
    }

    static void p17_behind60(Check check) {
        check.due("60 * 10 is 600", slow(check, 10, "roof 60;").riot(0), 60);
    }

    static void p17_behind61(Check check) {
        MurmurSheds x = slow(check, 10, "roof 60;");
        x.light(0);
        check.due("riot", x.riot(0), -1);
        x.night();
        check.due("riot by then", x.riot(0), 60);
    }

    static void p17_neverWith9Crowns(Check check) {
        check.due("60 * 9 is 540", check.of(Check.shed("a", "plain", 9, 9) + "roof 60;").riot(0), -1);
    }

    static void p17_eachByItself(Check check) {
        MurmurSheds x = check.of(Check.shed("a", "plain", 9, 1) + Check.shed("b", "plain", 5, 20)
            + Check.shed("c", "plain", 6, 20) + "roof 60;");
        check.due("riot(0)", x.riot(0), -1);
        check.due("riot(1)", x.riot(1), 6);
        check.due("riot(2)", x.riot(2), 5);
    }

    static void p17_noShed(Check check) {
        MurmurSheds x = slow(check, 20, "");
        check.due("riot(1)", x.riot(1), -1);
        check.due("riot(-1)", x.riot(-1), -1);
        check.due("riot(0) of a new one", new MurmurSheds().riot(0), -1);
    }

    // ---- 19

    static void p19_noSheds(Check check) {
        check.due("roofed", new MurmurSheds().roofed(), 0);
    }

    static void p19_now(Check check) {
        MurmurSheds x = slow(check, 1, "roof 5;");
        check.nights(x, 4);
        check.due("one lower", x.roofed(), 1);
        x.night();
        check.due("roofed", x.roofed(), 0);
    }

    static void p19_behind60(Check check) {
        check.due("roofed", slow(check, 1, "roof 60;").roofed(), 60);
    }

    static void p19_behind61(Check check) {
        MurmurSheds x = slow(check, 1, "roof 60;");
        x.light(0);
        check.due("roofed", x.roofed(), -1);
        x.night();
        check.due("roofed by then", x.roofed(), 60);
    }

    static void p19_theSlowestOne(Check check) {
        check.due("roofed", check.of(Check.shed("a", "plain", 5, 1) + Check.shed("b", "plain", 1, 1)
            + Check.shed("c", "plain", 4, 1) + "roof 20;").roofed(), 20);
    }

    static void p19_oneNever(Check check) {
        check.due("roofed", check.of(Check.shed("a", "plain", 5, 1) + Check.shed("b", "plain", 0, 1)).roofed(), -1);
    }

    static void p19_oneWithoutCrownsDoesNotCount(Check check) {
        MurmurSheds x = check.of(Check.shed("a", "plain", 5, 1) + Check.shed("b", "plain", 4, 1) + "roof 20;");
        check.nights(x, 3);
        check.due("both", x.roofed(), 2);
        x.pull(1, 1);
        check.due("a alone", x.roofed(), 1);
    }

    static void p19_noneHasCrowns(Check check) {
        MurmurSheds x = slow(check, 1, "roof 20;");
        check.nights(x, 10);
        x.pull(0, 1);
        check.due("roofed", x.roofed(), 0);
    }

    // ---- 32

    static void p32_behindNoNights(Check check) {
        MurmurSheds x = slow(check, 10, "");
        check.due("yields(0)", x.yields(0), 0);
        check.nights(x, 4);
        check.due("yields(0)", x.yields(0), 4);
    }

    static void p32_behind60Nights(Check check) {
        MurmurSheds x = slow(check, 10, "roof 60;");
        check.due("yields(59)", x.yields(59), 59);
        check.due("yields(60)", x.yields(60), 60);
    }

    static void p32_behind61Nights(Check check) {
        check.due("yields(61)", slow(check, 10, "").yields(61), -1);
    }

    static void p32_behindFewerThanNone(Check check) {
        check.due("yields(-1)", slow(check, 10, "").yields(-1), -1);
    }

    static void p32_noSheds(Check check) {
        MurmurSheds x = new MurmurSheds();
        check.due("yields(0)", x.yields(0), 0);
        check.due("yields(60)", x.yields(60), 0);
        check.due("yields(61)", x.yields(61), -1);
    }

    static void p32_eachMurmurIsCutByItself(Check check) {
        MurmurSheds x = check.of(Check.shed("a", "plain", 1, 9) + Check.shed("b", "plain", 1, 9));
        check.due("0 and 0", x.yields(1), 0);
        check.due("1 and 1", x.yields(2), 2);
    }

    static void p32_sixTogether(Check check) {
        StringBuilder text = new StringBuilder("roof 60;");
        for (char name = 'a'; name < 'g'; name++) {
            text.append(Check.shed("" + name, "plain", 9, 20));
        }
        check.due("6 * 120", check.of(text.toString()).yields(60), 720);
    }
}
