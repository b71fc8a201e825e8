/** Boundary cases of promises 36 to 38: pulling by turns, frosts by odds, and the stump. */
final class GameEdges {
    private GameEdges() {
    }

    private static MurmurSheds crowns(Check check, int... many) {
        StringBuilder text = new StringBuilder();
        for (int i = 0; i < many.length; i++) {
            text.append(Check.shed("s" + (char) ('a' + i), "plain", 9, many[i]));
        }
        return check.of(text.toString());
    }

    // ---- 36

    static void p36_noSheds(Check check) {
        check.due("stick", new MurmurSheds().stick(), -1);
    }

    static void p36_thePullOfTheLastOnes(Check check) {
        check.due("1", crowns(check, 1).stick(), 1);
        check.due("2", crowns(check, 2).stick(), 2);
        check.due("3", crowns(check, 3).stick(), 3);
    }

    static void p36_fourCantBeWon(Check check) {
        for (int many = 4; many <= 20; many += 4) {
            check.due("" + many, crowns(check, many).stick(), -1);
        }
    }

    static void p36_oneShedOfEachNumber(Check check) {
        for (int many = 1; many <= 20; many++) {
            check.due("" + many, crowns(check, many).stick(), many % 4 == 0 ? -1 : many % 4);
        }
    }

    static void p36_aShedOfTwentyBesideAnother(Check check) {
        // Twenty weigh nothing; the pull is of the first shed by which both weigh alike.
        for (int many = 1; many <= 19; many++) {
            int due = many % 4 == 0 ? -1 : 4 - many % 4;
            check.due("20 and " + many, crowns(check, 20, many).stick(), due);
        }
    }

    static void p36_twoThatAreAlikeCantBeWon(Check check) {
        for (int many = 1; many <= 20; many++) {
            check.due(many + " and " + many, crowns(check, many, many).stick(), -1);
        }
    }

    static void p36_theFirstShedThatWins(Check check) {
        check.due("1 and 3, to 1 and 1", crowns(check, 1, 3).stick(), 4 + 2);
        check.due("5 and 3, to 3 and 3", crowns(check, 5, 3).stick(), 2);
        check.due("3 and 5", crowns(check, 3, 5).stick(), 2);
        // 4 weighs nothing: three of it leave 1 and 1.
        check.due("4 and 1", crowns(check, 4, 1).stick(), 3);
    }

    static void p36_theLastShed(Check check) {
        check.due("4 4 4 4 4 1", crowns(check, 4, 4, 4, 4, 4, 1).stick(), 3);
        check.due("1 1 1 1 1 3", crowns(check, 1, 1, 1, 1, 1, 3).stick(), 20 + 2);
    }

    static void p36_howeverHighTheyAre(Check check) {
        MurmurSheds x = crowns(check, 5, 2);
        int due = x.stick();
        check.nights(x, 3);
        check.due("grown", x.stick(), due);
    }

    static void p36_ofThoseThatAreLeft(Check check) {
        MurmurSheds x = crowns(check, 5, 2);
        check.due("5 and 2", x.stick(), 3);
        check.nights(x, 2);
        x.pull(0, 5);
        check.due("2", x.stick(), 4 + 2);
        x.pull(1, 2);
        check.due("none", x.stick(), -1);
    }

    static void p36_nothingIsPulled(Check check) {
        MurmurSheds x = crowns(check, 5, 2);
        x.stick();
        check.facts(x, 2, 5, 2);
    }

    // ---- 37

    static void p37_oddsOf0And10(Check check) {
        MurmurSheds x = check.of(Check.shed("a", "plain", 5, 1) + "roof 5;");
        check.due("no frost", x.chance(0, 1, 0), 1000000);
        check.due("frost", x.chance(0, 1, 10), 0);
        check.due("no frost", x.chance(0, 6, 0), 1000000);
        check.due("frost", x.chance(0, 6, 10), 0);
    }

    static void p37_oddsBelow0AndBeyond10(Check check) {
        MurmurSheds x = check.of(Check.shed("a", "plain", 5, 1) + "roof 5;");
        check.due("chance(0, 1, -1)", x.chance(0, 1, -1), -1);
        check.due("chance(0, 1, 11)", x.chance(0, 1, 11), -1);
    }

    static void p37_oneAndSixNights(Check check) {
        MurmurSheds x = check.of(Check.shed("a", "plain", 5, 1) + "roof 5;");
        check.due("1", x.chance(0, 1, 9), 100000);
        // 1 - 0.9 to the sixth: 0.468559.
        check.due("6", x.chance(0, 6, 9), 468559);
        check.due("6", x.chance(0, 6, 1), 999999);
    }

    static void p37_noneAndSevenNights(Check check) {
        MurmurSheds x = check.of(Check.shed("a", "plain", 5, 1) + "roof 5;");
        check.due("0", x.chance(0, 0, 5), -1);
        check.due("-1", x.chance(0, -1, 5), -1);
        check.due("7", x.chance(0, 7, 5), -1);
    }

    static void p37_noShed(Check check) {
        MurmurSheds x = check.of(Check.shed("a", "plain", 5, 1));
        check.due("chance(-1, 1, 1)", x.chance(-1, 1, 1), -1);
        check.due("chance(1, 1, 1)", x.chance(1, 1, 1), -1);
        check.due("chance(0, 1, 1) of a new one", new MurmurSheds().chance(0, 1, 1), -1);
    }

    static void p37_inPlaceOfTheFrostThatIsTold(Check check) {
        MurmurSheds x = check.of(Check.shed("a", "plain", 5, 1) + "roof 5;frost 9;");
        check.due("no frost", x.chance(0, 1, 0), 1000000);
        MurmurSheds y = check.of(Check.shed("a", "plain", 9, 1) + "roof 9;frost 3;");
        check.due("a frost of 9, not of 3", y.chance(0, 6, 10), 0);
    }

    static void p37_aFrostOf9(Check check) {
        MurmurSheds x = check.of(Check.shed("a", "plain", 9, 1) + "roof 5;grows warm+(warm=0)*5;");
        check.due("either way", x.chance(0, 1, 5), 1000000);
        MurmurSheds y = check.of(Check.shed("a", "plain", 9, 1) + "roof 5;grows (0<warm)*5;");
        check.due("mild ones alone", y.chance(0, 1, 4), 600000);
    }

    static void p37_justNotAsHighAsTheRoof(Check check) {
        MurmurSheds x = check.of(Check.shed("a", "plain", 2, 1) + "roof 12;");
        check.due("six mild nights", x.chance(0, 6, 0), 1000000);
        check.due("five mild nights", x.chance(0, 5, 0), 0);
        check.due("all six must be", x.chance(0, 6, 5), 15625);
    }

    static void p37_atTheRoofAlready(Check check) {
        MurmurSheds x = check.of(Check.shed("a", "plain", 5, 1) + "roof 5;");
        x.night();
        check.due("whatever comes", x.chance(0, 3, 7), 1000000);
    }

    static void p37_aLitOne(Check check) {
        MurmurSheds x = check.of(Check.shed("a", "plain", 5, 1) + "roof 5;");
        x.light(0);
        check.due("in the first night", x.chance(0, 1, 0), 0);
        check.due("in the second", x.chance(0, 2, 3), 700000);
    }

    static void p37_oneWithoutCrowns(Check check) {
        MurmurSheds x = check.of(Check.shed("a", "plain", 9, 1) + "roof 10;");
        check.nights(x, 2);
        check.due("at the roof", x.chance(0, 1, 5), 1000000);
        x.pull(0, 1);
        check.due("pulled", x.chance(0, 6, 0), 0);
    }

    static void p37_theNightGoesOn(Check check) {
        MurmurSheds x = check.of(Check.shed("a", "plain", 9, 1) + "roof 5;grows 5*(date=2)*(0<warm);");
        check.due("the third night decides", x.chance(0, 3, 2), 800000);
        check.due("nothing is done", x.count(2), 0);
        check.facts(x, 3, 0);
    }

    // ---- 38

    static void p38_allNothing(Check check) {
        MurmurSheds x = new MurmurSheds();
        check.due("how many", x.rests(0, 0, 0, -1), 4);
        for (int i = 0; i < 4; i++) {
            check.due("the " + i + "-th", x.rests(0, 0, 0, i), i);
        }
    }

    static void p38_oneSpeaks(Check check) {
        MurmurSheds x = new MurmurSheds();
        check.due("how many", x.rests(9, 9, 9, -1), 2);
        check.due("the other one", x.rests(9, 9, 9, 0), 1);
        check.due("the first one", x.rests(9, 9, 9, 1), 2);
    }

    static void p38_bothSpeakIfNeitherWouldGetMore(Check check) {
        // Who is silent against one that speaks gets 0, and loses 0 if he speaks too.
        MurmurSheds x = new MurmurSheds();
        check.due("how many", x.rests(0, 1, 0, -1), 3);
        check.due("the last", x.rests(0, 1, 0, 2), 3);
        check.due("not if both lose", x.rests(1, 1, 0, -1), 2);
        check.due("nor if silence pays", x.rests(0, 1, 1, -1), 2);
    }

    static void p38_bothSilentIfSpeakingGetsNothing(Check check) {
        MurmurSheds x = new MurmurSheds();
        check.due("how many", x.rests(1, 0, 0, -1), 3);
        check.due("the first", x.rests(1, 0, 0, 0), 0);
        check.due("not if speaking pays", x.rests(1, 1, 0, 0), 1);
    }

    static void p38_noneSuch(Check check) {
        MurmurSheds x = new MurmurSheds();
        check.none("a fifth", () -> x.rests(0, 0, 0, 4));
        check.none("a third of two", () -> x.rests(9, 9, 9, 2));
        check.none("a fourth of three", () -> x.rests(1, 0, 0, 3));
        check.none("below none", () -> x.rests(0, 0, 0, -2));
    }

    static void p38_0And9(Check check) {
        MurmurSheds x = new MurmurSheds();
        check.due("rests(9, 0, 0)", x.rests(9, 0, 0, -1), 3);
        check.due("rests(0, 9, 0)", x.rests(0, 9, 0, -1), 3);
        check.due("rests(0, 0, 9)", x.rests(0, 0, 9, -1), 3);
    }

    static void p38_loseBelow0AndBeyond9(Check check) {
        MurmurSheds x = new MurmurSheds();
        check.none("-1", () -> x.rests(-1, 1, 1, -1));
        check.none("10", () -> x.rests(10, 1, 1, 0));
    }

    static void p38_speaksBelow0AndBeyond9(Check check) {
        MurmurSheds x = new MurmurSheds();
        check.none("-1", () -> x.rests(1, -1, 1, -1));
        check.none("10", () -> x.rests(1, 10, 1, 0));
    }

    static void p38_silentBelow0AndBeyond9(Check check) {
        MurmurSheds x = new MurmurSheds();
        check.none("-1", () -> x.rests(1, 1, -1, -1));
        check.none("10", () -> x.rests(1, 1, 10, 0));
    }
}
