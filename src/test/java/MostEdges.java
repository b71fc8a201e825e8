/** Boundary cases of promises 18, 30 and 31: how few must be pulled, and the loudest and the highest. */
final class MostEdges {
    private MostEdges() {
    }

    /** A plain shed of heat 1 behind so many nights, below a roof of 60. */
    private static MurmurSheds high(Check check, int nights, int crowns) {
        MurmurSheds x = check.of(Check.shed("a", "plain", 1, crowns) + "roof 60;");
        check.nights(x, nights);
        return x;
    }

    // ---- 18

    static void p18_itIsNone(Check check) {
        check.due("0 high", high(check, 0, 20).calm(0), 0);
        check.due("58", high(check, 29, 20).calm(0), 0);
    }

    static void p18_60IsOne(Check check) {
        check.due("30 * 19 is 570", high(check, 30, 20).calm(0), 1);
    }

    static void p18_59IsNone(Check check) {
        // 35 * 17 is 595, cut to 59.
        check.due("35 * 18 is 630", high(check, 35, 18).calm(0), 1);
        check.due("35 * 17 is 595", high(check, 35, 17).calm(0), 0);
        check.due("from 20 to 17", high(check, 35, 20).calm(0), 3);
    }

    static void p18_theMost(Check check) {
        check.due("60 high: from 20 to 9", high(check, 60, 20).calm(0), 11);
    }

    static void p18_onceThatManyArePulled(Check check) {
        MurmurSheds x = high(check, 60, 20);
        x.pull(0, 10);
        check.due("one yet", x.calm(0), 1);
        x.pull(0, 1);
        check.due("none", x.calm(0), 0);
        check.due("riot", x.riot(0), -1);
    }

    static void p18_withoutCrowns(Check check) {
        MurmurSheds x = high(check, 60, 20);
        x.pull(0, 20);
        check.due("calm", x.calm(0), 0);
    }

    static void p18_noShed(Check check) {
        MurmurSheds x = high(check, 0, 1);
        check.due("calm(-1)", x.calm(-1), -1);
        check.due("calm(1)", x.calm(1), -1);
        check.due("calm(0) of a new one", new MurmurSheds().calm(0), -1);
    }

    // ---- 30

    static void p30_noSheds(Check check) {
        check.due("loud", new MurmurSheds().loud(), -1);
    }

    static void p30_allAreSilent(Check check) {
        check.due("loud", check.of(Check.shed("a", "plain", 1, 1) + Check.shed("b", "plain", 9, 20)).loud(), 0);
    }

    static void p30_ofEqualOnesTheFirst(Check check) {
        MurmurSheds x = check.of(Check.shed("a", "plain", 1, 1) + Check.shed("b", "plain", 2, 20)
            + Check.shed("c", "plain", 4, 10) + Check.shed("d", "plain", 8, 5));
        x.night();
        check.due("4 each", x.loud(), 1);
    }

    static void p30_equalByWhatIsCut(Check check) {
        MurmurSheds x = check.of(Check.shed("a", "plain", 2, 6) + Check.shed("b", "plain", 1, 19));
        x.night();
        check.due("12 and 19 are both 1", x.loud(), 0);
    }

    static void p30_theLastOne(Check check) {
        MurmurSheds x = check.of(Check.shed("a", "plain", 9, 2) + Check.shed("b", "plain", 2, 20));
        x.night();
        check.due("1 and 4", x.loud(), 1);
    }

    static void p30_afterPulling(Check check) {
        MurmurSheds x = check.of(Check.shed("a", "plain", 9, 20) + Check.shed("b", "plain", 9, 19));
        check.nights(x, 2);
        check.due("36 and 34", x.loud(), 0);
        x.pull(0, 2);
        check.due("32 and 34", x.loud(), 1);
    }

    // ---- 31

    static void p31_noSheds(Check check) {
        check.due("tall", new MurmurSheds().tall(), -1);
    }

    static void p31_allAre0High(Check check) {
        check.due("tall", check.of(Check.shed("a", "plain", 1, 1) + Check.shed("b", "plain", 9, 20)).tall(), 0);
    }

    static void p31_ofEqualOnesTheFirst(Check check) {
        MurmurSheds x = check.of(Check.shed("a", "plain", 1, 20) + Check.shed("b", "plain", 5, 1)
            + Check.shed("c", "plain", 5, 9));
        x.night();
        check.due("5 and 5", x.tall(), 1);
    }

    static void p31_allAtTheRoof(Check check) {
        MurmurSheds x = check.of(Check.shed("a", "plain", 4, 1) + Check.shed("b", "plain", 9, 1) + "roof 5;");
        x.night();
        check.due("4 and 5", x.tall(), 1);
        x.night();
        check.due("5 and 5", x.tall(), 0);
    }

    static void p31_theLastOne(Check check) {
        MurmurSheds x = check.of(Check.shed("a", "plain", 8, 20) + Check.shed("b", "plain", 9, 1));
        x.night();
        check.due("8 and 9", x.tall(), 1);
    }

    static void p31_oneWithoutCrownsIs0High(Check check) {
        MurmurSheds x = check.of(Check.shed("a", "plain", 9, 1) + Check.shed("b", "plain", 1, 1));
        check.nights(x, 2);
        x.pull(0, 1);
        check.due("0 and 2", x.tall(), 1);
    }
}
