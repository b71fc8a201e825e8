/** Boundary cases of promises 1 and 2: a new object, and what comes on the tape. */
final class TapeEdges {
    private static final long BLANKS = 0x2020202020202020L;

    private TapeEdges() {
    }

    /** A new object whose tape has so many blanks, and then this text. */
    private static MurmurSheds blanksThen(Check check, int many, String text) {
        MurmurSheds x = new MurmurSheds();
        String told = " ".repeat(many) + text;
        check.due("tell", Check.tell(x, told), Math.min(1000, told.length()));
        return x;
    }

    static void p01_aNewObjectHasNothing(Check check) {
        MurmurSheds x = new MurmurSheds();
        for (int what : new int[] {0, 1, 2, 3, 5, 6, 7, 8, 9, 10, 11}) {
            check.due("count(" + what + ")", x.count(what), 0);
        }
        check.due("no shed", x.shed(0, 0), -2);
        check.due("no stage", x.stage(0, 0), -1);
    }

    static void p01_aNewObjectHasNoMark(Check check) {
        MurmurSheds x = new MurmurSheds();
        for (int mark = 0; mark < 4; mark++) {
            check.due("mark(" + mark + ", true)", x.mark(mark, true), false);
        }
    }

    static void p01_aNewObjectKnowsNothingOfAnother(Check check) {
        MurmurSheds one = check.of(Check.shed("a", "plain", 4, 5) + "stage s wants 1 to 2;roof 9;frost 7;");
        one.night();
        one.mark(0, false);
        one.see(1, 1, true);
        Check.tell(one, "night;");
        MurmurSheds other = new MurmurSheds();
        int[] due = {0, 0, 0, 0, 30, 0, 0, 0, 0, 0, 0, 0};
        for (int what = 0; what < due.length; what++) {
            check.due("count(" + what + ")", other.count(what), due[what]);
        }
        check.due("no mark", other.mark(0, true), false);
    }

    static void p02_noSignAtAll(Check check) {
        check.due("feed(0, 0, 0)", new MurmurSheds().feed(0, 0, 0), 0);
    }

    static void p02_upTo24SignsAtOnce(Check check) {
        MurmurSheds x = new MurmurSheds();
        check.due("24", x.feed(0x6161616161616161L, 0x6161616161616161L, 0x6161616161616161L), 24);
        check.due("24 more", x.feed(0x6161616161616161L, 0x6161616161616161L, 0x6161616161616161L), 48);
    }

    static void p02_oneSignInEachPlace(Check check) {
        for (int shift = 0; shift < 64; shift += 8) {
            MurmurSheds x = new MurmurSheds();
            check.due("in a", x.feed(0x7EL << shift, 0, 0), 1);
            check.due("in b", x.feed(0, 0x7EL << shift, 0), 2);
            check.due("in c", x.feed(0, 0, 0x7EL << shift), 3);
        }
    }

    static void p02_theHighestByteComesFirst(Check check) {
        MurmurSheds x = new MurmurSheds();
        // "roof 12;" in one long.
        check.due("feed", x.feed(0x726F6F662031323BL, 0, 0), 8);
        check.due("yard", x.yard(), 0);
        check.due("roof", x.count(4), 12);
    }

    static void p02_aComesAheadOfBAndBOfC(Check check) {
        MurmurSheds x = new MurmurSheds();
        // "roof", " 1", "2;".
        check.due("feed", x.feed(0x726F6F66L, 0x2031L, 0x323BL), 8);
        check.due("yard", x.yard(), 0);
        check.due("roof", x.count(4), 12);
    }

    static void p02_newLineIsHeldAndItsNeighboursAreNot(Check check) {
        check.due("9 and 11", new MurmurSheds().feed(0x090BL, 0, 0), 0);
        check.due("10", new MurmurSheds().feed(0x0AL, 0, 0), 1);
    }

    static void p02_32IsTheLeastOfTheOthers(Check check) {
        check.due("31", new MurmurSheds().feed(0x1FL, 0, 0), 0);
        check.due("32", new MurmurSheds().feed(0x20L, 0, 0), 1);
    }

    static void p02_126IsTheMost(Check check) {
        check.due("126", new MurmurSheds().feed(0x7EL, 0, 0), 1);
        check.due("127", new MurmurSheds().feed(0x7FL, 0, 0), 0);
    }

    static void p02_bytesBeyond127AreLeftOut(Check check) {
        for (long sign = 128; sign < 256; sign++) {
            check.due("feed of " + sign, new MurmurSheds().feed(sign << 56, sign, sign << 8), 0);
        }
    }

    static void p02_999Fit(Check check) {
        check.due("count(11)", blanksThen(check, 999, "").count(11), 999);
    }

    static void p02_1000Fit(Check check) {
        MurmurSheds x = blanksThen(check, 999, "");
        check.due("one more", x.feed(0x20L, 0, 0), 1000);
        check.due("count(11)", x.count(11), 1000);
    }

    static void p02_theThousandAndFirstIsLeftOut(Check check) {
        MurmurSheds x = blanksThen(check, 1000, "");
        check.due("one more", x.feed(0x20L, 0, 0), 1000);
        check.due("24 more", x.feed(BLANKS, BLANKS, BLANKS), 1000);
        check.due("count(11)", x.count(11), 1000);
    }

    static void p02_theFirst1000AreThoseThatAreRead(Check check) {
        // Were the last ; held, too, it would be a line that can't stand there.
        MurmurSheds x = blanksThen(check, 993, "roof 9;;");
        check.due("yard", x.yard(), 0);
        check.due("roof", x.count(4), 9);
    }

    static void p02_theSignBehind1000IsMissed(Check check) {
        MurmurSheds x = blanksThen(check, 994, "roof 9;");
        check.due("yard", x.yard(), 1 + 16 * 1000);
    }

    static void p02_aFeedMayFitInPart(Check check) {
        MurmurSheds x = blanksThen(check, 992, "roof");
        // Four fit: " 49;" of " 49;9999".
        check.due("feed", x.feed(0x2034393B39393939L, BLANKS, BLANKS), 1000);
        check.due("yard", x.yard(), 0);
        check.due("roof", x.count(4), 49);
    }

    static void p02_whatIsLeftOutTakesNoPlace(Check check) {
        MurmurSheds x = blanksThen(check, 993, "roof 9");
        check.due("feed of 0, 127, 255, ;", x.feed(0x007FFF3BL, 0, 0), 1000);
        check.due("yard", x.yard(), 0);
        check.due("roof", x.count(4), 9);
    }

    static void p02_theTapeIsEmptyBehindAYard(Check check) {
        MurmurSheds x = blanksThen(check, 1000, "");
        check.due("yard", x.yard(), 0);
        check.due("count(11)", x.count(11), 0);
        check.due("it can be fed again", x.feed(BLANKS, 0, 0), 8);
    }

    static void p02_theTapeIsEmptyBehindAFaultyYard(Check check) {
        MurmurSheds x = blanksThen(check, 1, "week");
        check.due("yard", x.yard(), 1 + 16);
        check.due("count(11)", x.count(11), 0);
        check.due("yard of nothing", x.yard(), 0);
    }

    static void p02_theTapeIsEmptyBehindAWeek(Check check) {
        MurmurSheds x = blanksThen(check, 7, "night;");
        check.due("week", x.week(), 0);
        check.due("count(11)", x.count(11), 0);
        check.due("week of nothing", x.week(), 0);
        check.due("its lines", x.count(8), 0);
    }

    static void p02_theTapeIsEmptyBehindAFaultyWeek(Check check) {
        MurmurSheds x = blanksThen(check, 7, "nights;");
        check.due("week", x.week(), 1 + 16 * 7);
        check.due("count(11)", x.count(11), 0);
    }

    static void p02_aShorterTextLeavesNothingOfTheLongerOne(Check check) {
        MurmurSheds x = blanksThen(check, 0, "night;night;night;");
        check.due("week", x.week(), 0);
        Check.tell(x, "night;");
        check.due("week", x.week(), 0);
        check.due("its lines", x.count(8), 1);
        Check.tell(x, "night");
        check.due("week", x.week(), 1 + 16 * 5);
    }

    static void p02_nothingButReadingTakesTheTape(Check check) {
        MurmurSheds x = check.of(Check.shed("a", "plain", 9, 5));
        check.due("tell", Check.tell(x, "roof 9;"), 7);
        check.nights(x, 2);
        x.pull(0, 1);
        x.light(0);
        x.undo();
        x.mark(1, false);
        x.mark(1, true);
        x.weeks(1, 9, 0);
        x.judged(0);
        check.due("count(11)", x.count(11), 7);
    }
}
