/** Boundary cases of promises 25 to 29: what is near, and who has heard of whom. */
final class NearEdges {
    private NearEdges() {
    }

    /** Six plain sheds of this heat, a to f, and which are near: "ab cd". */
    private static MurmurSheds six(Check check, int heat, String near, String more) {
        StringBuilder text = new StringBuilder();
        for (char name = 'a'; name < 'g'; name++) {
            text.append(Check.shed("" + name, "plain", heat, 2));
        }
        for (String two : near.split(" ")) {
            if (!two.isEmpty()) {
                text.append("near ").append(two.charAt(0)).append(' ').append(two.charAt(1)).append(';');
            }
        }
        return check.of(text + more);
    }

    private static void heard(Check check, MurmurSheds x, int... due) {
        for (int i = 0; i < due.length; i++) {
            check.due("heard(" + i + ") in night " + x.count(2), x.heard(i), due[i]);
        }
    }

    // ---- 25

    static void p25_itselfAlone(Check check) {
        MurmurSheds x = six(check, 1, "", "");
        for (int i = 0; i < 6; i++) {
            check.due("reach(" + i + ")", x.reach(i), 1 << i);
        }
    }

    static void p25_onAndOn(Check check) {
        MurmurSheds x = six(check, 1, "ab bc cd de ef", "");
        check.due("reach(0)", x.reach(0), 63);
        check.due("reach(5)", x.reach(5), 63);
        MurmurSheds y = six(check, 1, "ef ae bf cb dc", "");
        check.due("reach(0)", y.reach(0), 63);
        check.due("reach(3)", y.reach(3), 63);
    }

    static void p25_onlyItsPart(Check check) {
        MurmurSheds x = six(check, 1, "ac ce bd", "");
        int[] due = {21, 10, 21, 10, 21, 32};
        for (int i = 0; i < 6; i++) {
            check.due("reach(" + i + ")", x.reach(i), due[i]);
        }
    }

    static void p25_alsoOverOnesWithoutCrowns(Check check) {
        MurmurSheds x = six(check, 9, "ab bc", "");
        check.nights(x, 2);
        x.pull(1, 2);
        check.due("reach(0)", x.reach(0), 7);
    }

    static void p25_noShed(Check check) {
        MurmurSheds x = check.of(Check.shed("a", "plain", 1, 1) + Check.shed("b", "plain", 1, 1));
        check.due("reach(-1)", x.reach(-1), -1);
        check.due("reach(2)", x.reach(2), -1);
        check.due("reach(0) of a new one", new MurmurSheds().reach(0), -1);
    }

    // ---- 26

    static void p26_theSame(Check check) {
        MurmurSheds x = six(check, 1, "ab", "");
        for (int i = 0; i < 6; i++) {
            check.due("far(" + i + ", " + i + ")", x.far(i, i), 0);
        }
    }

    static void p26_never(Check check) {
        MurmurSheds x = six(check, 1, "ab bc de", "");
        check.due("far(0, 3)", x.far(0, 3), -1);
        check.due("far(4, 2)", x.far(4, 2), -1);
        check.due("far(5, 0)", x.far(5, 0), -1);
    }

    static void p26_theMost(Check check) {
        MurmurSheds x = six(check, 1, "ab bc cd de ef", "");
        for (int i = 0; i < 6; i++) {
            check.due("far(0, " + i + ")", x.far(0, i), i);
            check.due("far(" + i + ", 0)", x.far(i, 0), i);
        }
    }

    static void p26_theLeastOfTwoWays(Check check) {
        MurmurSheds x = six(check, 1, "ab bc cd de ef fa", "");
        check.due("far(0, 3)", x.far(0, 3), 3);
        check.due("far(0, 4)", x.far(0, 4), 2);
        check.due("far(1, 5)", x.far(1, 5), 2);
    }

    static void p26_noShed(Check check) {
        MurmurSheds x = check.of(Check.shed("a", "plain", 1, 1) + Check.shed("b", "plain", 1, 1));
        check.due("far(-1, 0)", x.far(-1, 0), -1);
        check.due("far(0, -1)", x.far(0, -1), -1);
        check.due("far(2, 0)", x.far(2, 0), -1);
        check.due("far(0, 2)", x.far(0, 2), -1);
        check.due("far(2, 2)", x.far(2, 2), -1);
        check.due("far(-1, -1)", x.far(-1, -1), -1);
        check.due("far(0, 0) of a new one", new MurmurSheds().far(0, 0), -1);
    }

    static void p26_noShedByItsBits(Check check) {
        MurmurSheds x = check.of(Check.shed("a", "plain", 1, 1) + Check.shed("b", "plain", 1, 1));
        check.due("far(32, 0)", x.far(32, 0), -1);
        check.due("far(0, 32)", x.far(0, 32), -1);
        check.due("far(-32, 0)", x.far(-32, 0), -1);
        check.due("far(0, -32)", x.far(0, -32), -1);
    }

    // ---- 27

    static void p27_noSheds(Check check) {
        check.due("parts", new MurmurSheds().parts(), 0);
    }

    static void p27_oneShed(Check check) {
        check.due("parts", check.of(Check.shed("a", "plain", 1, 1)).parts(), 1);
    }

    static void p27_noneNear(Check check) {
        check.due("parts", six(check, 1, "", "").parts(), 6);
    }

    static void p27_allHangTogether(Check check) {
        check.due("parts", six(check, 1, "af fb be ec cd", "").parts(), 1);
    }

    static void p27_aRingAddsNone(Check check) {
        check.due("three near each other", six(check, 1, "ab bc ca", "").parts(), 4);
        check.due("pairs", six(check, 1, "af be cd", "").parts(), 3);
    }

    // ---- 28

    static void p28_itselfAtFirst(Check check) {
        heard(check, six(check, 9, "ab bc", ""), 1, 2, 4, 8, 16, 32);
    }

    static void p28_onlyOfWhatWasHeardAheadOfThatNight(Check check) {
        MurmurSheds x = six(check, 1, "ab bc cd de ef", "");
        x.night();
        heard(check, x, 3, 7, 14, 28, 56, 48);
        x.night();
        heard(check, x, 7, 15, 31, 62, 60, 56);
    }

    static void p28_againstTheirNumbersToo(Check check) {
        MurmurSheds x = six(check, 1, "fe ed dc cb ba", "");
        x.night();
        heard(check, x, 3, 7, 14, 28, 56, 48);
    }

    static void p28_whoDoesNotCreakIsNotHeard(Check check) {
        MurmurSheds x = check.of(Check.shed("a", "plain", 0, 1) + Check.shed("b", "plain", 1, 1) + "near a b;");
        x.night();
        heard(check, x, 3, 2);
    }

    static void p28_aLitOneHearsAndIsNotHeard(Check check) {
        MurmurSheds x = six(check, 1, "ab", "");
        x.light(1);
        x.night();
        heard(check, x, 1, 3);
    }

    static void p28_oneAtTheRoofHearsAndIsNotHeard(Check check) {
        MurmurSheds x = check.of(Check.shed("a", "plain", 5, 1) + Check.shed("b", "plain", 4, 1)
            + Check.shed("c", "plain", 5, 1) + "near a b;near b c;roof 5;");
        x.light(1);
        x.night();
        heard(check, x, 1, 7, 4);
        x.night();
        heard(check, x, 7, 7, 7);
        MurmurSheds y = check.of(Check.shed("a", "plain", 5, 1) + Check.shed("b", "plain", 5, 1) + "near a b;roof 5;");
        y.light(0);
        check.nights(y, 1);
        heard(check, y, 3, 2);
        check.nights(y, 1);
        heard(check, y, 3, 3);
    }

    static void p28_oneWithoutCrownsHearsAndIsNotHeard(Check check) {
        MurmurSheds x = check.of(Check.shed("a", "early", 9, 1) + Check.shed("b", "plain", 0, 1) + "near a b;");
        x.night();
        heard(check, x, 1, 3);
        MurmurSheds y = check.of(Check.shed("a", "early", 9, 1) + Check.shed("b", "plain", 0, 1)
            + Check.shed("c", "plain", 0, 1) + "near a b;near b c;");
        y.night();
        y.pull(0, 1);
        y.heat(1, 1);
        y.night();
        heard(check, y, 3, 3, 7);
    }

    static void p28_whatIsHeardStays(Check check) {
        MurmurSheds x = six(check, 9, "ab", "");
        check.nights(x, 2);
        x.pull(1, 2);
        check.nights(x, 5);
        heard(check, x, 3, 3);
    }

    static void p28_noShed(Check check) {
        MurmurSheds x = check.of(Check.shed("a", "plain", 1, 1) + Check.shed("b", "plain", 1, 1));
        check.due("heard(-1)", x.heard(-1), -1);
        check.due("heard(2)", x.heard(2), -1);
        check.due("heard(0) of a new one", new MurmurSheds().heard(0), -1);
    }

    // ---- 29

    static void p29_noSheds(Check check) {
        check.due("news", new MurmurSheds().news(), 0);
    }

    static void p29_noneNear(Check check) {
        check.due("news", six(check, 0, "", "").news(), 0);
    }

    static void p29_now(Check check) {
        MurmurSheds x = six(check, 1, "ab", "");
        check.due("news", x.news(), 1);
        x.night();
        check.due("news", x.news(), 0);
    }

    static void p29_behind60(Check check) {
        check.due("news", six(check, 1, "ab", "grows date=59;").news(), 60);
    }

    static void p29_behind61(Check check) {
        MurmurSheds x = six(check, 1, "ab", "grows date=60;");
        check.due("news", x.news(), -1);
        x.night();
        check.due("news by then", x.news(), 60);
    }

    static void p29_byTheFarthest(Check check) {
        check.due("five steps", six(check, 1, "ab bc cd de ef", "").news(), 5);
        check.due("three steps", six(check, 1, "ab bc cd ef", "").news(), 3);
    }

    static void p29_oneIsNeverHeard(Check check) {
        MurmurSheds x = six(check, 0, "ab", "");
        x.heat(0, 1);
        check.due("a alone creaks", x.news(), -1);
        x.heat(1, 1);
        check.due("both", x.news(), 1);
    }

    static void p29_oneAtTheRoofIsHeardNoMore(Check check) {
        // c has heard of a in the second night, when b creaks no more.
        MurmurSheds x = check.of(Check.shed("a", "plain", 1, 1) + Check.shed("b", "plain", 5, 1)
            + Check.shed("c", "plain", 1, 1) + "near a b;near b c;roof 5;");
        check.due("news", x.news(), -1);
        x.heat(1, 4);
        check.due("news", x.news(), 2);
    }
}
