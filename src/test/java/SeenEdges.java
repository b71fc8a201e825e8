/** Boundary cases of promises 33 to 35: an unknown shed, by its creaks. */
final class SeenEdges {
    private SeenEdges() {
    }

    /** Plain sheds of these heats, with ten crowns each, so that a shed creaks ten times its heat up to the roof. */
    private static MurmurSheds heats(Check check, String heats, String more) {
        StringBuilder text = new StringBuilder();
        for (int i = 0; i < heats.length(); i++) {
            text.append(Check.shed("s" + (char) ('a' + i), "plain", heats.charAt(i) - '0', 10));
        }
        return check.of(text + more);
    }

    // ---- 33

    static void p33_theFirstAndThe20thNight(Check check) {
        MurmurSheds x = heats(check, "12", "");
        check.due("see(1, 1)", x.see(1, 1, true), true);
        check.due("see(20, 1)", x.see(20, 1, true), true);
        check.due("seen", x.count(9), 2);
    }

    static void p33_noNightAndThe21st(Check check) {
        MurmurSheds x = heats(check, "12", "");
        check.due("see(0, 1)", x.see(0, 1, true), false);
        check.due("see(-1, 1)", x.see(-1, 1, false), false);
        check.due("see(21, 1)", x.see(21, 1, true), false);
        check.due("seen", x.count(9), 0);
    }

    static void p33_1And400(Check check) {
        MurmurSheds x = heats(check, "12", "");
        check.due("see(1, 1)", x.see(1, 1, false), true);
        check.due("see(1, 400)", x.see(1, 400, false), true);
        check.due("seen", x.count(9), 2);
    }

    static void p33_0And401(Check check) {
        MurmurSheds x = heats(check, "12", "");
        check.due("see(1, 0)", x.see(1, 0, true), false);
        check.due("see(1, -1)", x.see(1, -1, false), false);
        check.due("see(1, 401)", x.see(1, 401, false), false);
        check.due("seen", x.count(9), 0);
        check.due("who", x.who(), 3);
    }

    static void p33_eightAtMost(Check check) {
        MurmurSheds x = heats(check, "12", "");
        for (int n = 1; n <= 8; n++) {
            check.due("see", x.see(1, 11, n % 2 == 0), true);
            check.due("seen", x.count(9), n);
        }
        check.due("a ninth", x.see(1, 11, true), false);
        check.due("seen", x.count(9), 8);
    }

    static void p33_aNinthIsNotSeen(Check check) {
        MurmurSheds x = heats(check, "12", "");
        for (int n = 0; n < 8; n++) {
            x.see(1, 11, true);
        }
        check.due("see", x.see(1, 11, false), false);
        check.due("who", x.who(), 2);
    }

    static void p33_theEighthCounts(Check check) {
        MurmurSheds x = heats(check, "12", "");
        for (int n = 0; n < 7; n++) {
            x.see(1, 1, true);
        }
        check.due("who", x.who(), 3);
        x.see(1, 11, true);
        check.due("who", x.who(), 2);
    }

    static void p33_aRefusedOneLeavesRoom(Check check) {
        MurmurSheds x = heats(check, "12", "");
        for (int n = 0; n < 8; n++) {
            x.see(0, 1, true);
            check.due("see", x.see(1, 1, true), true);
        }
        check.due("seen", x.count(9), 8);
    }

    static void p33_alsoWithoutSheds(Check check) {
        MurmurSheds x = new MurmurSheds();
        check.due("see", x.see(20, 400, false), true);
        check.due("seen", x.count(9), 1);
    }

    static void p33_itIsNotUndone(Check check) {
        MurmurSheds x = heats(check, "12", "");
        x.see(1, 1, true);
        check.due("undo", x.undo(), false);
        check.due("seen", x.count(9), 1);
    }

    // ---- 34

    static void p34_nothingSeen(Check check) {
        check.due("who", heats(check, "123456", "").who(), 63);
        check.due("no sheds", new MurmurSheds().who(), 0);
    }

    static void p34_soMuchOrMore(Check check) {
        MurmurSheds x = heats(check, "234", "");
        x.see(1, 30, true);
        check.due("30 and 40", x.who(), 6);
        MurmurSheds y = heats(check, "234", "");
        y.see(1, 31, true);
        check.due("40", y.who(), 4);
    }

    static void p34_lessThanSoMuch(Check check) {
        MurmurSheds x = heats(check, "234", "");
        x.see(1, 30, false);
        check.due("20", x.who(), 1);
        MurmurSheds y = heats(check, "234", "");
        y.see(1, 31, false);
        check.due("20 and 30", y.who(), 3);
    }

    static void p34_eitherOneOrTheOther(Check check) {
        for (int much = 1; much < 60; much++) {
            MurmurSheds more = heats(check, "12345", "");
            MurmurSheds less = heats(check, "12345", "");
            more.see(1, much, true);
            less.see(1, much, false);
            check.due("both by " + much, more.who() & less.who(), 0);
            check.due("all by " + much, more.who() | less.who(), 31);
        }
    }

    static void p34_noCreakIsLessThan1(Check check) {
        MurmurSheds x = heats(check, "05", "");
        x.see(1, 1, false);
        check.due("who", x.who(), 1);
        MurmurSheds y = heats(check, "05", "");
        y.see(1, 1, true);
        check.due("who", y.who(), 2);
    }

    static void p34_theMostCreak(Check check) {
        // Nine by the law and five that have more crowns: 14 times 19.
        StringBuilder text = new StringBuilder(Check.shed("a", "wild", 9, 19));
        for (char name = 'b'; name < 'g'; name++) {
            text.append(Check.shed("" + name, "plain", 0, 20)).append("near a ").append(name).append(';');
        }
        MurmurSheds x = check.of(text.toString());
        x.see(1, 266, true);
        check.due("266", x.who(), 1);
        x.see(1, 267, true);
        check.due("267", x.who(), 0);
    }

    static void p34_none(Check check) {
        MurmurSheds x = heats(check, "123", "");
        x.see(1, 400, true);
        check.due("who", x.who(), 0);
    }

    static void p34_allThatIsSeen(Check check) {
        MurmurSheds x = heats(check, "12345", "");
        x.see(1, 20, true);
        x.see(1, 50, false);
        check.due("20 to 40", x.who(), 14);
        x.see(10, 1, true);
        check.due("the fourth is at the roof by then", x.who(), 6);
    }

    static void p34_theTwentiethNight(Check check) {
        MurmurSheds x = heats(check, "123", "roof 20;");
        x.see(20, 1, true);
        check.due("the slowest alone", x.who(), 1);
        x.night();
        check.due("it would be the 21st", x.who(), 0);
    }

    static void p34_asAllIsWhenItIsAsked(Check check) {
        MurmurSheds x = heats(check, "12", "");
        x.see(1, 15, true);
        check.due("who", x.who(), 2);
        x.heat(0, 9);
        check.due("heated", x.who(), 3);
        x.light(1);
        check.due("lit", x.who(), 1);
        x.undo();
        x.undo();
        check.due("undone", x.who(), 2);
    }

    static void p34_fromNowOn(Check check) {
        MurmurSheds x = heats(check, "55", "grows warm*(date=3);");
        x.see(2, 1, true);
        check.due("in night 1", x.who(), 0);
        check.nights(x, 2);
        check.due("in night 3", x.who(), 3);
    }

    // ---- 35

    static void p35_noneOrOne(Check check) {
        check.due("no sheds", new MurmurSheds().ask(), -1);
        check.due("one", heats(check, "5", "").ask(), -1);
        MurmurSheds x = heats(check, "12", "");
        x.see(1, 400, true);
        check.due("none of two", x.ask(), -1);
    }

    static void p35_twoAlike(Check check) {
        check.due("ask", heats(check, "33", "").ask(), -1);
    }

    static void p35_theLeastMuch(Check check) {
        check.due("one that does not creak", heats(check, "01", "").ask(), 1001);
        check.due("10 and 20", heats(check, "12", "").ask(), 1011);
        check.due("20 and 10", heats(check, "21", "").ask(), 1011);
        check.due("10 and 90", heats(check, "19", "").ask(), 1011);
    }

    static void p35_theFirstNight(Check check) {
        check.due("in the first", heats(check, "12", "").ask() / 1000, 1);
        check.due("in the third", heats(check, "12", "grows warm*(date=2);").ask(), 3011);
    }

    static void p35_the20thNightAndThe21st(Check check) {
        check.due("in the 20th", heats(check, "01", "grows warm*(date=19);").ask(), 20001);
        MurmurSheds x = heats(check, "01", "grows warm*(date=20);");
        check.due("in the 21st", x.ask(), -1);
        x.night();
        check.due("by then", x.ask(), 20001);
    }

    static void p35_theGreaterNumberIsTheLeast(Check check) {
        check.due("1 and 3, 2 and 2", heats(check, "1234", "").ask(), 1021);
        check.due("5 and 1", heats(check, "333339", "").ask(), 1031);
        check.due("2 and 4, as they are pairs", heats(check, "113399", "").ask(), 1011);
    }

    static void p35_ofEqualOnesTheLeast(Check check) {
        // Two and one, or one and two.
        check.due("from 11 on", heats(check, "123", "").ask(), 1011);
        check.due("two and three, from 21 on", heats(check, "12345", "").ask(), 1021);
    }

    static void p35_aLaterNightThatPartsThemBetter(Check check) {
        // In the first night three creak alike and one does not; in the second, two.
        MurmurSheds x = heats(check, "0123", "grows (0<warm)*(date=0)+(1<warm)*(date=1);");
        check.due("ask", x.ask(), 2001);
    }

    static void p35_onlyOfThoseThatMayBe(Check check) {
        MurmurSheds x = heats(check, "1239", "");
        x.see(1, 25, true);
        check.due("30 and 90", x.ask(), 1031);
        x.see(1, 31, true);
        check.due("90 alone", x.ask(), -1);
    }

    static void p35_asAllIsWhenItIsAsked(Check check) {
        MurmurSheds x = heats(check, "33", "");
        x.light(0);
        check.due("the first is lit", x.ask(), 1001);
        x.undo();
        x.heat(1, 4);
        check.due("the second is heated", x.ask(), 1031);
    }

    static void p35_askingDoesNothing(Check check) {
        MurmurSheds x = heats(check, "12", "");
        x.ask();
        x.who();
        check.due("night", x.count(2), 0);
        check.due("seen", x.count(9), 0);
        check.facts(x, 3, 0, 0);
    }
}
