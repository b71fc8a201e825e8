/** Boundary cases of promises 5 and 7: what a shed answers, and what a night does. */
final class NightEdges {
    private NightEdges() {
    }

    /** A shed of its own, of this kind, that grows by a law of the heat and the night. */
    private static MurmurSheds one(Check check, String kind, int heat, int crowns, String more) {
        return check.of(Check.shed("a", kind, heat, crowns) + more);
    }

    // ---- 5: a shed

    static void p05_whatOfAShedThatIsNone(Check check) {
        MurmurSheds x = check.of(Check.shed("a", "plain", 1, 1) + Check.shed("b", "plain", 1, 1));
        for (int what = 0; what < 7; what++) {
            check.due("shed(-1, " + what + ")", x.shed(-1, what), -2);
            check.due("shed(2, " + what + ")", x.shed(2, what), -2);
            check.due("shed(6, " + what + ")", x.shed(6, what), -2);
        }
    }

    static void p05_theLastShed(Check check) {
        MurmurSheds x = check.of(Check.shed("a", "plain", 1, 1) + Check.shed("b", "shy", 3, 4));
        check.due("shed(1, 1)", x.shed(1, 1), 3);
    }

    static void p05_whatBelow0AndBeyond6(Check check) {
        MurmurSheds x = one(check, "wild", 7, 13, "");
        check.due("shed(0, -1)", x.shed(0, -1), -2);
        check.due("shed(0, -2)", x.shed(0, -2), -2);
        check.due("shed(0, 0)", x.shed(0, 0), 3);
        check.due("shed(0, 6)", x.shed(0, 6), 0);
        check.due("shed(0, 7)", x.shed(0, 7), -2);
    }

    static void p05_theFourKinds(Check check) {
        check.facts(check.of(Check.shed("a", "plain", 1, 1) + Check.shed("b", "early", 1, 1)
            + Check.shed("c", "shy", 1, 1) + Check.shed("d", "wild", 1, 1)), 0, 0, 1, 2, 3);
    }

    static void p05_litAndDark(Check check) {
        MurmurSheds x = one(check, "plain", 1, 1, "");
        check.facts(x, 4, 0);
        x.light(0);
        check.facts(x, 4, 1);
        x.night();
        check.facts(x, 4, 0);
    }

    static void p05_noneNear(Check check) {
        check.facts(one(check, "plain", 1, 1, ""), 5, 0);
    }

    static void p05_aMurmurIsCut(Check check) {
        MurmurSheds x = one(check, "plain", 1, 1, "");
        int[] due = {0, 0, 0, 0, 0, 0, 0, 0, 0, 0, 1, 1};
        for (int murmur : due) {
            check.due("murmur at " + x.shed(0, 3), x.shed(0, 6), murmur);
            x.night();
        }
        MurmurSheds y = one(check, "plain", 1, 19, "");
        y.night();
        check.due("19 / 10", y.shed(0, 6), 1);
    }

    static void p05_theMostMurmur(Check check) {
        MurmurSheds x = one(check, "plain", 9, 20, "roof 60;");
        check.nights(x, 7);
        check.due("60 * 20 / 10", x.shed(0, 6), 120);
    }

    // ---- 7: the kinds

    static void p07_noSheds(Check check) {
        MurmurSheds x = new MurmurSheds();
        check.due("night", x.night(), 0);
        check.due("count(2)", x.count(2), 1);
    }

    static void p07_anEarlyOneAt9GrowsBy1More(Check check) {
        MurmurSheds x = one(check, "early", 0, 1, "grows 8*(date=0)+2*(date=1);");
        x.night();
        check.facts(x, 3, 9);
        x.night();
        check.facts(x, 3, 12);
    }

    static void p07_anEarlyOneAt10DoesNot(Check check) {
        MurmurSheds x = one(check, "early", 0, 1, "grows 9*(date=0)+2*(date=1);");
        x.night();
        check.facts(x, 3, 10);
        x.night();
        check.facts(x, 3, 12);
    }

    static void p07_anEarlyOneGrowsBy1IfTheLawIsBelow0(Check check) {
        MurmurSheds x = one(check, "early", 0, 1, "grows 0-5;");
        x.night();
        check.facts(x, 3, 1);
    }

    static void p07_anEarlyOneGrowsBy10AtMost(Check check) {
        MurmurSheds x = one(check, "early", 0, 1, "grows 99;");
        x.night();
        check.facts(x, 3, 10);
    }

    /** A shy one of this heat by a plain one that is lit. */
    private static void shy(Check check, int heat, int due) {
        MurmurSheds x = check.of(Check.shed("a", "shy", heat, 1) + Check.shed("b", "plain", 0, 1) + "near a b;");
        x.light(1);
        x.night();
        check.facts(x, 3, due);
    }

    static void p07_aShyOnesHalfIsCut(Check check) {
        shy(check, 0, 0);
        shy(check, 1, 0);
        shy(check, 2, 1);
        shy(check, 5, 2);
        shy(check, 8, 4);
        shy(check, 9, 4);
    }

    static void p07_aShyOnesHalfIsOf9AtMost(Check check) {
        MurmurSheds x = check.of(Check.shed("a", "shy", 0, 1) + Check.shed("b", "plain", 0, 1) + "near a b;grows 18;");
        x.light(1);
        x.night();
        check.facts(x, 3, 4, 0);
    }

    static void p07_aShyOneWithTwoLitIsHalvedOnce(Check check) {
        MurmurSheds x = check.of(Check.shed("a", "shy", 8, 1) + Check.shed("b", "plain", 0, 1)
            + Check.shed("c", "plain", 0, 1) + "near a b;near a c;");
        x.light(1);
        x.light(2);
        x.night();
        check.facts(x, 3, 4);
    }

    static void p07_aShyOneIsWholeIfAnotherIsLit(Check check) {
        MurmurSheds x = check.of(Check.shed("a", "shy", 8, 1) + Check.shed("b", "plain", 0, 1)
            + Check.shed("c", "plain", 0, 1) + "near a b;near b c;");
        x.light(2);
        x.night();
        check.facts(x, 3, 8);
    }

    static void p07_aShyOneIsWholeInTheNextNight(Check check) {
        MurmurSheds x = check.of(Check.shed("a", "shy", 8, 1) + Check.shed("b", "plain", 0, 1) + "near a b;");
        x.light(1);
        check.nights(x, 2);
        check.facts(x, 3, 12);
    }

    static void p07_aShyOneByALitOneWithoutCrowns(Check check) {
        MurmurSheds x = check.of(Check.shed("a", "shy", 4, 1) + Check.shed("b", "plain", 9, 1) + "near a b;");
        check.nights(x, 2);
        x.pull(1, 1);
        x.light(1);
        x.night();
        check.facts(x, 3, 10, 0);
    }

    static void p07_aPlainOneByALitOneIsWhole(Check check) {
        MurmurSheds x = check.of(Check.shed("a", "plain", 8, 1) + Check.shed("b", "early", 7, 1)
            + Check.shed("c", "wild", 6, 1) + Check.shed("d", "plain", 0, 1) + "near a d;near b d;near c d;");
        x.light(3);
        x.night();
        check.facts(x, 3, 8, 8, 6, 0);
    }

    /** A wild one (heat 2, 5 crowns) with others near it of these crowns. */
    private static void wild(Check check, int due, int... crowns) {
        StringBuilder text = new StringBuilder(Check.shed("a", "wild", 2, 5));
        for (int i = 0; i < crowns.length; i++) {
            String name = "b" + (char) ('a' + i);
            text.append(Check.shed(name, "plain", 0, crowns[i])).append("near a ").append(name).append(';');
        }
        MurmurSheds x = check.of(text.toString());
        x.night();
        check.facts(x, 3, due);
    }

    static void p07_aWildOneByNone(Check check) {
        wild(check, 2);
    }

    static void p07_aWildOneByOneOfAsManyCrowns(Check check) {
        wild(check, 2, 5);
        wild(check, 2, 4);
    }

    static void p07_aWildOneByOneOfMoreCrowns(Check check) {
        wild(check, 3, 6);
        wild(check, 3, 20);
    }

    static void p07_aWildOneByFiveOfMoreCrowns(Check check) {
        wild(check, 7, 6, 7, 8, 9, 20);
        wild(check, 5, 6, 5, 8, 4, 20);
    }

    static void p07_aWildOneBehindTheOthers(Check check) {
        MurmurSheds x = check.of(Check.shed("a", "plain", 0, 6) + Check.shed("b", "plain", 0, 5)
            + Check.shed("c", "wild", 2, 5) + "near c a;near b c;");
        x.night();
        check.facts(x, 3, 0, 0, 3);
    }

    static void p07_aShyOneBehindTheOthers(Check check) {
        MurmurSheds x = check.of(Check.shed("a", "plain", 1, 1) + Check.shed("b", "shy", 8, 1) + "near b a;");
        x.light(0);
        x.night();
        check.facts(x, 3, 0, 4);
    }

    static void p07_aWildOneByOnesThatAreNotNear(Check check) {
        MurmurSheds x = check.of(Check.shed("a", "wild", 2, 5) + Check.shed("b", "plain", 0, 20)
            + Check.shed("c", "plain", 0, 20) + "near b c;");
        x.night();
        check.facts(x, 3, 2);
    }

    static void p07_aWildOneCountsLitOnes(Check check) {
        MurmurSheds x = check.of(Check.shed("a", "wild", 2, 5) + Check.shed("b", "plain", 0, 20) + "near a b;");
        x.light(1);
        x.night();
        check.facts(x, 3, 3);
    }

    static void p07_aWildOneGrowsBeyond9(Check check) {
        MurmurSheds x = check.of(Check.shed("a", "wild", 9, 5) + Check.shed("b", "plain", 0, 20) + "near a b;grows 50;");
        x.night();
        check.facts(x, 3, 10, 9);
    }

    static void p07_aWildOneByTheCrownsThatAreLeft(Check check) {
        MurmurSheds x = check.of(Check.shed("a", "wild", 2, 5) + Check.shed("b", "plain", 5, 7) + "near a b;");
        check.nights(x, 2);
        x.pull(1, 2);
        x.night();
        check.facts(x, 3, 8);
    }

    // ---- 7: light, crowns, the roof

    static void p07_aLitOneDoesNotGrow(Check check) {
        for (String kind : "plain early shy wild".split(" ")) {
            MurmurSheds x = check.of(Check.shed("a", kind, 9, 1) + Check.shed("b", "plain", 9, 2) + "near a b;");
            x.light(0);
            x.night();
            check.facts(x, 3, 0, 9);
        }
    }

    static void p07_aLitOneIsDarkThen(Check check) {
        MurmurSheds x = one(check, "plain", 4, 1, "");
        x.light(0);
        x.night();
        check.facts(x, 4, 0);
        x.night();
        check.facts(x, 3, 4);
    }

    static void p07_allLitOnesAreDarkThen(Check check) {
        MurmurSheds x = check.of(Check.shed("a", "plain", 1, 1) + Check.shed("b", "plain", 1, 1));
        x.light(0);
        x.light(1);
        check.due("lit", x.count(6), 3);
        x.night();
        check.due("lit", x.count(6), 0);
    }

    static void p07_oneWithoutCrownsDoesNotGrow(Check check) {
        for (String kind : "plain early shy wild".split(" ")) {
            MurmurSheds x = check.of(Check.shed("a", kind, 9, 1) + Check.shed("b", "plain", 9, 2) + "near a b;");
            check.nights(x, 2);
            check.due("pull", x.pull(0, 1), 0);
            check.due("night", x.night(), 0);
            check.facts(x, 3, 0, 27);
        }
    }

    static void p07_upToTheRoof(Check check) {
        MurmurSheds x = one(check, "plain", 9, 2, "roof 10;");
        x.night();
        check.due("creak to come", x.creak(0, 1), 2);
        check.due("it pops at the roof", x.night(), 1);
        check.facts(x, 3, 10);
        x.night();
        check.facts(x, 3, 10);
    }

    static void p07_upToTheRoofInOneNight(Check check) {
        MurmurSheds x = one(check, "plain", 5, 2, "roof 5;");
        x.night();
        check.facts(x, 3, 5);
        MurmurSheds y = one(check, "early", 9, 2, "roof 5;");
        check.due("creak to come", y.creak(0, 1), 10);
        y.night();
        check.facts(y, 3, 5);
    }

    // ---- 7: who pops

    static void p07_from9To10ItPops(Check check) {
        MurmurSheds x = one(check, "plain", 0, 1, "grows 9*(date=0)+1;");
        MurmurSheds y = one(check, "plain", 0, 1, "grows 9*(date=0)+(0<date);");
        check.due("to 9", x.night(), 0);
        check.due("to 10", x.night(), 1);
        check.due("to 9", y.night(), 0);
        check.due("to 10", y.night(), 1);
    }

    static void p07_from0To9ItDoesNot(Check check) {
        check.due("night", one(check, "plain", 9, 1, "").night(), 0);
    }

    static void p07_from0To10ItPops(Check check) {
        check.due("night", one(check, "early", 9, 1, "").night(), 1);
    }

    static void p07_beyond10ItPops(Check check) {
        MurmurSheds x = one(check, "plain", 9, 1, "");
        x.night();
        check.due("from 9 to 18", x.night(), 1);
    }

    static void p07_from10OnItDoesNot(Check check) {
        MurmurSheds x = one(check, "early", 9, 1, "");
        x.night();
        check.due("from 10 to 19", x.night(), 0);
        check.facts(x, 3, 19);
    }

    static void p07_belowARoofOf9ItNeverPops(Check check) {
        MurmurSheds x = one(check, "early", 9, 1, "roof 9;");
        check.due("night", x.night(), 0);
        check.due("night", x.night(), 0);
        check.facts(x, 3, 9);
    }

    static void p07_whoPopsAsBits(Check check) {
        MurmurSheds x = check.of(Check.shed("a", "plain", 5, 1) + Check.shed("b", "plain", 4, 1)
            + Check.shed("c", "plain", 5, 1) + Check.shed("d", "early", 9, 1) + Check.shed("e", "plain", 0, 1)
            + Check.shed("f", "plain", 9, 1));
        check.due("the first", x.night(), 8);
        check.due("the second", x.night(), 37);
        check.due("the third", x.night(), 2);
    }

    // ---- 7: the nights go on

    static void p07_frostsComeAgainAndAgain(Check check) {
        MurmurSheds x = one(check, "plain", 9, 1, "roof 60;frost 9 8 7;");
        int[] due = {0, 0, 1, 3, 3, 4, 6};
        for (int high : due) {
            check.facts(x, 3, high);
            x.night();
        }
    }

    static void p07_aFrostOfOneNightIsThatOfAll(Check check) {
        MurmurSheds x = one(check, "plain", 9, 1, "frost 7;");
        check.nights(x, 3);
        check.facts(x, 3, 6);
    }

    static void p07_aNightCanBeUndone(Check check) {
        MurmurSheds x = one(check, "plain", 9, 1, "");
        x.night();
        check.due("what can be undone", x.count(10), 1);
    }

    static void p07_anEmptyNightCountsToo(Check check) {
        MurmurSheds x = new MurmurSheds();
        check.nights(x, 20);
        check.due("night", x.count(2), 20);
        check.due("what can be undone", x.count(10), 16);
    }
}
