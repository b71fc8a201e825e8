/** Boundary cases of promise 39: weeks by draws. */
final class WeeksEdges {
    private WeeksEdges() {
    }

    /** The document's draws, one behind another. */
    private static final class Draws {
        private long g;

        Draws(int seed) {
            g = seed;
        }

        int below(int m) {
            g = (g * 1103515245L + 12345L) % 2147483648L;
            return (int) (g / 65536L % m);
        }
    }

    /** Three plain sheds, 12, 16 and 4 high, that grow by 3, 4 and 1. */
    private static MurmurSheds three(Check check) {
        MurmurSheds x = check.of(Check.shed("a", "plain", 3, 20) + Check.shed("b", "plain", 4, 3)
            + Check.shed("c", "plain", 1, 20) + "roof 60;");
        check.nights(x, 4);
        return x;
    }

    /** The first seed from this one on by which the first shed drawn of so many, and what is done to it, is so. */
    private static int seedOf(int from, int sheds, int shed, int deed) {
        for (int seed = from; seed < 10000; seed++) {
            Draws draws = new Draws(seed);
            if (draws.below(sheds) == shed && draws.below(5) == deed) {
                return seed;
            }
        }
        return -1;
    }

    /** The third draw below m by this seed, the ones ahead being of a shed of so many and of what is done. */
    private static int third(int seed, int sheds, int m) {
        Draws draws = new Draws(seed);
        draws.below(sheds);
        draws.below(5);
        return draws.below(m);
    }

    private static void due(Check check, MurmurSheds x, int seed, int nights, int... due) {
        for (int what = 0; what < due.length; what++) {
            check.due("weeks(" + seed + ", " + nights + ", " + what + ")", x.weeks(seed, nights, what), due[what]);
        }
    }

    static void p39_seed0And9999(Check check) {
        MurmurSheds x = new MurmurSheds();
        check.due("weeks(0, 1, 0)", x.weeks(0, 1, 0), 0);
        check.due("weeks(9999, 1, 0)", x.weeks(9999, 1, 0), 0);
    }

    static void p39_seedBelow0AndBeyond9999(Check check) {
        MurmurSheds x = three(check);
        for (int what = 0; what < 3; what++) {
            check.due("weeks(-1, 1, " + what + ")", x.weeks(-1, 1, what), -1);
            check.due("weeks(10000, 1, " + what + ")", x.weeks(10000, 1, what), -1);
        }
    }

    static void p39_oneAnd99Nights(Check check) {
        MurmurSheds x = check.of(Check.shed("a", "plain", 0, 1) + "grows 0;");
        due(check, x, 5, 1, 0, 1, 0);
        due(check, x, 5, 99, 0, 1, 0);
    }

    static void p39_noneAnd100Nights(Check check) {
        MurmurSheds x = three(check);
        for (int what = 0; what < 3; what++) {
            check.due("weeks(1, 0, " + what + ")", x.weeks(1, 0, what), -1);
            check.due("weeks(1, -1, " + what + ")", x.weeks(1, -1, what), -1);
            check.due("weeks(1, 100, " + what + ")", x.weeks(1, 100, what), -1);
        }
    }

    static void p39_whatBelow0AndBeyond2(Check check) {
        MurmurSheds x = three(check);
        check.due("weeks(1, 1, -1)", x.weeks(1, 1, -1), -1);
        check.due("weeks(1, 1, 3)", x.weeks(1, 1, 3), -1);
    }

    static void p39_noSheds(Check check) {
        MurmurSheds x = new MurmurSheds();
        due(check, x, 0, 1, 0, 0, 0);
        due(check, x, 9999, 99, 0, 0, 0);
    }

    static void p39_oneIsLit(Check check) {
        MurmurSheds x = three(check);
        due(check, x, seedOf(0, 3, 0, 0), 1, 0, 43, 24 + 6 + 10);
        due(check, x, seedOf(0, 3, 1, 0), 1, 0, 43, 30 + 4 + 10);
        due(check, x, seedOf(0, 3, 2, 0), 1, 0, 43, 30 + 6 + 8);
    }

    static void p39_aLitOneIsLitYet(Check check) {
        MurmurSheds x = three(check);
        x.light(0);
        due(check, x, seedOf(0, 3, 0, 0), 1, 0, 43, 24 + 6 + 10);
        check.due("then, too", x.count(6), 1);
    }

    static void p39_oneIsHeated(Check check) {
        MurmurSheds x = three(check);
        int seed = 0;
        for (int n = 0; n < 40; n++) {
            seed = seedOf(seed + 1, 3, 2, 1);
            int heat = third(seed, 3, 10);
            due(check, x, seed, 1, heat >= 6 ? 1 : 0, 43, 30 + 6 + (4 + heat) * 2);
        }
    }

    static void p39_oneIsHeatedTo0And9(Check check) {
        MurmurSheds x = three(check);
        int found = 0;
        for (int seed = seedOf(0, 3, 2, 1); seed != -1; seed = seedOf(seed + 1, 3, 2, 1)) {
            int heat = third(seed, 3, 10);
            if (found < 60 && (heat == 0 || heat == 9)) {
                check.due("murmurs by seed " + seed, x.weeks(seed, 1, 2), 36 + (4 + heat) * 2);
                found++;
            }
        }
        check.due("some", found, 60);
    }

    static void p39_oneToFiveArePulled(Check check) {
        MurmurSheds x = three(check);
        int seed = 0;
        int found = 0;
        for (int n = 0; n < 40; n++) {
            seed = seedOf(seed + 1, 3, 0, 2);
            int crowns = third(seed, 3, 5) + 1;
            found |= 1 << crowns;
            due(check, x, seed, 1, 0, 43 - crowns, 15 * (20 - crowns) / 10 + 6 + 10);
        }
        check.due("from 1 to 5", found, 62);
    }

    static void p39_moreThanThereAreAreNotPulled(Check check) {
        MurmurSheds x = three(check);
        int seed = 0;
        int found = 0;
        for (int n = 0; n < 40; n++) {
            seed = seedOf(seed + 1, 3, 1, 2);
            int crowns = third(seed, 3, 5) + 1;
            found |= 1 << crowns;
            int left = crowns <= 3 ? 3 - crowns : 3;
            due(check, x, seed, 1, 0, 40 + left, 30 + 20 * left / 10 + 10);
        }
        check.due("from 1 to 5", found, 62);
    }

    static void p39_oneThatIsTooLowIsNotPulled(Check check) {
        MurmurSheds x = three(check);
        due(check, x, seedOf(0, 3, 2, 2), 1, 0, 43, 30 + 6 + 10);
    }

    static void p39_crownsAreDrawnThoughNoneCanBePulled(Check check) {
        // Nothing grows, so that in the second night the draws alone tell which shed is heated, and to what.
        MurmurSheds x = check.of(Check.shed("a", "plain", 0, 10) + Check.shed("b", "plain", 0, 20) + "grows warm*(date=1);");
        int found = 0;
        for (int seed = 0; seed < 10000 && found < 40; seed++) {
            Draws draws = new Draws(seed);
            draws.below(2);
            boolean pulled = draws.below(5) == 2;
            draws.below(5);
            int shed = draws.below(2);
            if (pulled && draws.below(5) == 1) {
                found++;
                check.due("murmurs by seed " + seed, x.weeks(seed, 2, 2), draws.below(10) * (shed + 1));
            }
        }
        check.due("some", found, 40);
    }

    static void p39_nothingElseIsDoneByTheOtherDraws(Check check) {
        MurmurSheds x = three(check);
        for (int shed = 0; shed < 3; shed++) {
            due(check, x, seedOf(0, 3, shed, 3), 1, 0, 43, 30 + 6 + 10);
            due(check, x, seedOf(0, 3, shed, 4), 1, 0, 43, 30 + 6 + 10);
        }
    }

    static void p39_theLastOfSixSheds(Check check) {
        StringBuilder text = new StringBuilder();
        for (char name = 'a'; name < 'g'; name++) {
            text.append(Check.shed("" + name, "plain", name - 'a', 10));
        }
        MurmurSheds x = check.of(text.toString());
        due(check, x, seedOf(0, 6, 5, 0), 1, 0, 60, 10);
        due(check, x, seedOf(0, 6, 0, 0), 1, 0, 60, 15);
    }

    static void p39_howOftenOnePopped(Check check) {
        // By a law of 9 all pop in the second night, but for one that was lit in one of the two.
        MurmurSheds x = check.of(Check.shed("a", "plain", 0, 1) + Check.shed("b", "plain", 0, 1) + "grows 9;");
        for (int seed = 0; seed < 100; seed++) {
            Draws draws = new Draws(seed);
            int lit = 0;
            for (int n = 0; n < 2; n++) {
                int shed = draws.below(2);
                int deed = draws.below(5);
                if (deed == 0) {
                    lit |= 1 << shed;
                } else if (deed < 3) {
                    draws.below(deed == 1 ? 10 : 5);
                }
            }
            check.due("popped by seed " + seed, x.weeks(seed, 2, 0), 2 - Integer.bitCount(lit));
        }
    }

    static void p39_whoPoppedEarlierCounts(Check check) {
        // Each has been dark in two of so many nights, whatever is drawn, and pops no second time.
        MurmurSheds x = check.of(Check.shed("a", "plain", 0, 20) + Check.shed("b", "plain", 0, 20) + "grows 9;");
        for (int seed = 0; seed < 100; seed++) {
            check.due("popped by seed " + seed, x.weeks(seed, 40, 0), 2);
        }
    }

    static void p39_oneShedAlone(Check check) {
        MurmurSheds x = check.of(Check.shed("a", "plain", 5, 10));
        due(check, x, seedOf(0, 1, 0, 0), 1, 0, 10, 0);
        due(check, x, seedOf(0, 1, 0, 3), 1, 0, 10, 5);
        int seed = seedOf(0, 1, 0, 1);
        due(check, x, seed, 1, 0, 10, third(seed, 1, 10));
    }

    static void p39_fromNowOn(Check check) {
        MurmurSheds x = check.of(Check.shed("a", "plain", 9, 10) + "frost 9 9 0;");
        int seed = seedOf(0, 1, 0, 4);
        check.due("a frost of 9", x.weeks(seed, 1, 2), 0);
        check.nights(x, 2);
        check.due("no frost", x.weeks(seed, 1, 2), 9);
    }

    static void p39_allIsAsAheadThen(Check check) {
        MurmurSheds x = three(check);
        x.light(1);
        x.see(1, 1, true);
        x.weeks(77, 99, 0);
        check.due("night", x.count(2), 4);
        check.due("lit", x.count(6), 2);
        check.due("seen", x.count(9), 1);
        check.due("what can be undone", x.count(10), 5);
        check.facts(x, 1, 3, 4, 1);
        check.facts(x, 2, 20, 3, 20);
        check.facts(x, 3, 12, 16, 4);
    }

    static void p39_theSameSeedAgain(Check check) {
        MurmurSheds x = three(check);
        for (int what = 0; what < 3; what++) {
            int first = x.weeks(4321, 50, what);
            x.weeks(1234, 50, what);
            check.due("again", x.weeks(4321, 50, what), first);
        }
    }

    static void p39_oneWithoutCrowns(Check check) {
        MurmurSheds x = check.of(Check.shed("a", "plain", 9, 1));
        check.nights(x, 2);
        x.pull(0, 1);
        for (int seed = 0; seed < 20; seed++) {
            due(check, x, seed, 99, 0, 0, 0);
        }
    }
}
