/** Boundary cases of promise 41: what there is. */
final class CountEdges {
    private CountEdges() {
    }

    private static MurmurSheds sheds(Check check, int many, int heat, int crowns, String more) {
        StringBuilder text = new StringBuilder();
        for (int i = 0; i < many; i++) {
            text.append(Check.shed("s" + (char) ('a' + i), "plain", heat, crowns));
        }
        return check.of(text + more);
    }

    static void p41_whatBelow0AndBeyond11(Check check) {
        MurmurSheds x = sheds(check, 6, 9, 20, "");
        check.due("count(-1)", x.count(-1), -1);
        check.due("count(-2)", x.count(-2), -1);
        check.due("count(12)", x.count(12), -1);
    }

    static void p41_shedsFromNoneTo6(Check check) {
        for (int many = 0; many <= 6; many++) {
            check.due("count(0)", sheds(check, many, 1, 1, "").count(0), many);
        }
    }

    static void p41_stagesFromNoneTo5(Check check) {
        StringBuilder text = new StringBuilder();
        for (int many = 0; many <= 5; many++) {
            check.due("count(1)", check.of(text.toString()).count(1), many);
            text.append("stage t").append((char) ('a' + many)).append(" wants 1 to 1;");
        }
    }

    static void p41_theNight(Check check) {
        MurmurSheds x = sheds(check, 1, 1, 1, "");
        for (int night = 0; night < 100; night++) {
            check.due("count(2)", x.count(2), night);
            x.night();
        }
    }

    static void p41_theFrostOfTheNightThatIs(Check check) {
        MurmurSheds x = sheds(check, 1, 9, 1, "frost 5 0 9;");
        int[] due = {5, 0, 9, 5, 0, 9, 5};
        for (int frost : due) {
            check.due("count(3)", x.count(3), frost);
            x.night();
        }
        x.undo();
        check.due("undone", x.count(3), 5);
    }

    static void p41_noFrost(Check check) {
        MurmurSheds x = sheds(check, 1, 9, 1, "");
        check.nights(x, 13);
        check.due("count(3)", x.count(3), 0);
    }

    static void p41_theRoof(Check check) {
        check.due("count(4)", sheds(check, 1, 1, 1, "").count(4), 30);
        check.due("count(4)", sheds(check, 1, 1, 1, "roof 5;").count(4), 5);
        check.due("count(4)", sheds(check, 1, 1, 1, "roof 60;").count(4), 60);
    }

    static void p41_crownsOfAll(Check check) {
        MurmurSheds x = sheds(check, 6, 9, 20, "");
        check.due("the most", x.count(5), 120);
        check.nights(x, 2);
        for (int shed = 0; shed < 6; shed++) {
            x.pull(shed, 20);
            check.due("count(5)", x.count(5), 100 - 20 * shed);
        }
    }

    static void p41_whoIsLit(Check check) {
        MurmurSheds x = sheds(check, 6, 1, 1, "");
        check.due("none", x.count(6), 0);
        int set = 0;
        for (int shed : new int[] {5, 0, 3, 1, 4, 2}) {
            x.light(shed);
            set |= 1 << shed;
            check.due("count(6)", x.count(6), set);
        }
        x.night();
        check.due("none", x.count(6), 0);
    }

    static void p41_riotsFrom60On(Check check) {
        MurmurSheds x = sheds(check, 3, 0, 20, "roof 60;");
        x.heat(2, 5);
        x.heat(0, 6);
        check.nights(x, 5);
        check.due("60 and 50", x.count(7), 1);
        x.night();
        check.due("72 and 60", x.count(7), 5);
        x.pull(2, 1);
        check.due("72 and 57", x.count(7), 1);
    }

    static void p41_aRiotOf59IsNone(Check check) {
        // 35 * 17 is 595.
        MurmurSheds x = sheds(check, 1, 5, 17, "roof 60;");
        check.nights(x, 7);
        check.due("59", x.count(7), 0);
        x.night();
        check.due("68", x.count(7), 1);
    }

    static void p41_allAreRiots(Check check) {
        MurmurSheds x = sheds(check, 6, 9, 20, "roof 60;");
        check.nights(x, 7);
        check.due("count(7)", x.count(7), 63);
    }

    static void p41_linesOfTheWeek(Check check) {
        MurmurSheds x = sheds(check, 1, 1, 1, "");
        check.due("no week", x.count(8), 0);
        for (int lines : new int[] {1, 39, 40, 0}) {
            check.due("week", Check.week(x, "night;".repeat(lines)), 0);
            check.due("count(8)", x.count(8), lines);
        }
    }

    static void p41_seenFromNoneTo8(Check check) {
        MurmurSheds x = sheds(check, 1, 1, 1, "");
        for (int n = 0; n < 12; n++) {
            check.due("count(9)", x.count(9), Math.min(n, 8));
            x.see(1, 1, true);
        }
    }

    static void p41_whatCanBeUndoneFromNoneTo16(Check check) {
        MurmurSheds x = sheds(check, 1, 1, 1, "");
        for (int n = 0; n < 20; n++) {
            check.due("count(10)", x.count(10), Math.min(n, 16));
            x.night();
        }
        for (int n = 16; n > 0; n--) {
            check.due("count(10)", x.count(10), n);
            x.undo();
        }
        check.due("count(10)", x.count(10), 0);
        x.undo();
        check.due("count(10)", x.count(10), 0);
    }

    static void p41_signsFromNoneTo1000(Check check) {
        MurmurSheds x = new MurmurSheds();
        check.due("count(11)", x.count(11), 0);
        x.feed(0x20L, 0, 0);
        check.due("count(11)", x.count(11), 1);
        Check.tell(x, " ".repeat(998));
        check.due("count(11)", x.count(11), 999);
        Check.tell(x, "  ");
        check.due("count(11)", x.count(11), 1000);
    }

    static void p41_countingDoesNothing(Check check) {
        MurmurSheds x = sheds(check, 2, 1, 1, "");
        for (int what = -1; what < 13; what++) {
            x.count(what);
        }
        check.due("night", x.count(2), 0);
        check.due("what can be undone", x.count(10), 0);
    }
}
