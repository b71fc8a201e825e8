/** Boundary cases of promise 3: tokens, and the lines of a yard but for its law. */
final class YardEdges {
    private static final String A = Check.shed("a", "plain", 1, 1);
    private static final String B = Check.shed("b", "wild", 9, 20);
    private static final String RESERVED = "shed heat crowns near stage wants to frost roof grows night light pull"
        + " plain early shy wild not and or";

    private YardEdges() {
    }

    private static String sheds(int many) {
        StringBuilder text = new StringBuilder();
        for (int i = 0; i < many; i++) {
            text.append(Check.shed("s" + (char) ('a' + i), "plain", i, i + 1));
        }
        return text.toString();
    }

    private static String stages(int many) {
        StringBuilder text = new StringBuilder();
        for (int i = 0; i < many; i++) {
            text.append("stage t").append((char) ('a' + i)).append(" wants ").append(i).append(" to 9;");
        }
        return text.toString();
    }

    // ---- tokens

    static void p03_aTextOfNothing(Check check) {
        check.due("count(0)", check.of("").count(0), 0);
    }

    static void p03_aTextOfBlanks(Check check) {
        check.due("count(0)", check.of(" \n  \n").count(0), 0);
    }

    static void p03_aWordOf8Letters(Check check) {
        check.of(Check.shed("abcdefgh", "plain", 1, 1) + Check.shed("zzzzzzzz", "plain", 1, 1));
    }

    static void p03_aWordOf9LettersIsNoneAtItsFirstSign(Check check) {
        check.yardFault("shed @abcdefghi plain heat 1 crowns 1;", 1);
        check.yardFault("shed a plain heat 1 crowns 1;near a @bbbbbbbbb;", 1);
        check.yardFault("@shedsheds a plain heat 1 crowns 1;", 1);
    }

    static void p03_aWordFarTooLong(Check check) {
        check.yardFault("shed @" + "a".repeat(500) + " plain heat 1 crowns 1;", 1);
        check.yardFault("@" + "z".repeat(1000), 1);
    }

    static void p03_aNumberOf4Digits(Check check) {
        check.due("roof", check.of("roof 0060;").count(4), 60);
        check.yardFault("roof @9999;", 4);
    }

    static void p03_aNumberOf5DigitsIsNoneAtItsFirstSign(Check check) {
        check.yardFault("roof @00060;", 1);
        check.yardFault("roof @10000;", 1);
        check.yardFault("frost 1 @00001;", 1);
    }

    static void p03_aNumberFarTooLong(Check check) {
        check.yardFault("roof @" + "9".repeat(900) + ";", 1);
        check.yardFault("roof @4294967326;", 1);
    }

    static void p03_aLetterMayStandRightBehindANumber(Check check) {
        MurmurSheds x = check.of("shed a plain heat 4crowns 5;stage s wants 1to 2;grows 1and 2or 3;");
        check.due("heat", x.shed(0, 1), 4);
        check.due("stage", x.stage(0, 0) * 100 + x.stage(0, 1), 102);
        check.yardFault("roof 9@a;", 1);
    }

    static void p03_aLongNumberWithALetterBehindIsNone(Check check) {
        check.yardFault("shed a plain heat @00004crowns 5;", 1);
    }

    static void p03_tokensAreAsLongAsCanBe(Check check) {
        check.due("roof", check.of("roof 55;").count(4), 55);
        check.yardFault("roof 5 @5;", 1);
        check.yardFault("@ro of 5;", 1);
        check.yardFault("@roofs 5;", 1);
        check.yardFault("@rooffrost 5;", 1);
    }

    static void p03_noBlanksAreNeededBesideSigns(Check check) {
        MurmurSheds x = check.of("shed a plain heat 4 crowns 5;roof7;frost3;grows(warm+tall)*2<many;");
        check.due("roof", x.count(4), 7);
        check.due("frost", x.count(3), 3);
    }

    static void p03_blanksStandWhereOneLikes(Check check) {
        MurmurSheds x = check.of("\n \nshed\n\na \n plain heat   4\ncrowns\n5 \n ; \n\n roof\n7\n;\n\n ");
        check.due("heat", x.shed(0, 1), 4);
        check.due("roof", x.count(4), 7);
    }

    static void p03_everyOtherSignIsNone(Check check) {
        for (char sign = 33; sign < 127; sign++) {
            boolean token = sign >= 'a' && sign <= 'z' || sign >= '0' && sign <= '9' || "()<=+-*;".indexOf(sign) >= 0;
            if (!token && sign != '@') {
                check.yardFault("@" + sign, 1);
                check.yardFault("roof 9@" + sign + ";", 1);
                check.yardFault("grows 1+@" + sign + "1;", 1);
            }
        }
        check.due("the @ itself", Check.yard(new MurmurSheds(), "roof 9 @;"), 1 + 16 * 7);
    }

    static void p03_noSignBeginsALine(Check check) {
        for (char sign : "()<=+-*;".toCharArray()) {
            check.yardFault("@" + sign, 1);
            check.yardFault("roof 9; @" + sign, 1);
        }
        check.yardFault("@0;", 1);
        check.yardFault("@name;", 1);
    }

    static void p03_noSignButASemicolonEndsALine(Check check) {
        for (char sign : "()<=+-*".toCharArray()) {
            check.yardFault("roof 9@" + sign, 1);
        }
        check.yardFault("roof 9@", 1);
    }

    // ---- the place of a fault

    static void p03_theEndIsAtTheTextsLength(Check check) {
        check.yardFault("roof@", 1);
        check.yardFault("roof 9@", 1);
        check.yardFault("roof 9  \n@", 1);
        check.yardFault(" ".repeat(990) + "roof 9    @", 1);
    }

    static void p03_aFaultAtTheLastOf1000(Check check) {
        check.yardFault(" ".repeat(992) + "roof 9;@;", 1);
        check.yardFault(" ".repeat(992) + "roof 59@=", 1);
    }

    static void p03_aFaultAtTheFirstSign(Check check) {
        check.due("place 0", Check.yard(new MurmurSheds(), ";"), 1);
    }

    static void p03_theFirstWrongTokenFromTheLeft(Check check) {
        check.yardFault("roof @4;;;shed", 4);
        check.yardFault(A + "near a @b;roof 4;", 2);
        check.yardFault(A + "shed @a red heat 99 crowns 99;", 3);
        check.yardFault(sheds(6) + "@shed sa red;", 5);
        check.yardFault("roof 9;@roof 99 99;", 3);
    }

    // ---- sheds

    static void p03_sixSheds(Check check) {
        MurmurSheds x = check.of(sheds(6));
        check.due("sheds", x.count(0), 6);
        check.due("the last one's crowns", x.shed(5, 2), 6);
        check.due("no seventh", x.shed(6, 2), -2);
    }

    static void p03_theWordShedOfASeventhIsOneTooMany(Check check) {
        check.yardFault(sheds(6) + "@" + Check.shed("x", "plain", 1, 1), 5);
        check.yardFault(sheds(6) + "@shed", 5);
    }

    static void p03_shedsAreNumberedAsTold(Check check) {
        MurmurSheds x = check.of("roof 9;" + Check.shed("z", "wild", 1, 2) + "frost 1;" + stages(1)
            + Check.shed("a", "shy", 3, 4) + Check.shed("m", "early", 5, 6) + Check.shed("b", "plain", 7, 8));
        check.facts(x, 0, 3, 2, 1, 0);
        check.facts(x, 1, 1, 3, 5, 7);
        check.facts(x, 2, 2, 4, 6, 8);
    }

    static void p03_heat0And9(Check check) {
        check.facts(check.of("shed a plain heat 0 crowns 1;shed b plain heat 9 crowns 1;"), 1, 0, 9);
    }

    static void p03_heat10(Check check) {
        check.yardFault("shed a plain heat @10 crowns 1;", 4);
    }

    static void p03_crowns1And20(Check check) {
        check.facts(check.of("shed a plain heat 0 crowns 1;shed b plain heat 9 crowns 20;"), 2, 1, 20);
    }

    static void p03_noCrowns(Check check) {
        check.yardFault("shed a plain heat 1 crowns @0;", 4);
    }

    static void p03_crowns21(Check check) {
        check.yardFault("shed a plain heat 1 crowns @21;", 4);
    }

    static void p03_aKindIsOneOfFour(Check check) {
        check.yardFault("shed a @late heat 1 crowns 1;", 1);
        check.yardFault("shed a @heat 1 crowns 1;", 1);
        check.yardFault("shed a plain @plain heat 1 crowns 1;", 1);
    }

    // ---- names

    static void p03_noNameIsAReservedWord(Check check) {
        for (String word : RESERVED.split(" ")) {
            check.yardFault("shed @" + word + " plain heat 1 crowns 1;", 1);
            check.yardFault("stage @" + word + " wants 1 to 1;", 1);
            check.yardFault(A + "near @" + word + " a;", 1);
            check.yardFault(A + "near a @" + word + ";", 1);
        }
    }

    static void p03_aFactMayBeAName(Check check) {
        check.of(Check.shed("warm", "plain", 1, 1) + Check.shed("tall", "plain", 1, 1) + "stage many wants 1 to 1;"
            + "stage date wants 1 to 1;near tall warm;grows warm+tall+many+date;");
    }

    static void p03_whatOnlyBeginsLikeAReservedWordIsAName(Check check) {
        for (String word : RESERVED.split(" ")) {
            check.of(Check.shed(word + "s", "plain", 1, 1) + "stage " + word.substring(1) + "q wants 1 to 1;");
        }
    }

    static void p03_twoShedsAlike(Check check) {
        check.yardFault(A + "shed @a wild heat 2 crowns 2;", 3);
    }

    static void p03_twoStagesAlike(Check check) {
        check.yardFault("stage s wants 1 to 1;stage @s wants 2 to 2;", 3);
    }

    static void p03_aStageAsAShed(Check check) {
        check.yardFault(A + "stage @a wants 1 to 1;", 3);
    }

    static void p03_aShedAsAStage(Check check) {
        check.yardFault("stage a wants 1 to 1;shed @a plain heat 1 crowns 1;", 3);
    }

    static void p03_namesThatDifferByOneLetter(Check check) {
        MurmurSheds x = check.of(Check.shed("a", "plain", 1, 1) + Check.shed("aa", "plain", 1, 1)
            + Check.shed("ab", "plain", 1, 1) + Check.shed("aaaaaaaa", "plain", 1, 1) + "stage ba wants 1 to 1;"
            + "near aa ab;");
        check.facts(x, 5, 0, 4, 2, 0);
    }

    // ---- near

    static void p03_allPairsAreNear(Check check) {
        StringBuilder text = new StringBuilder(sheds(6));
        for (char i = 'a'; i < 'g'; i++) {
            for (char j = 'a'; j < i; j++) {
                text.append("near s").append(i).append(" s").append(j).append(';');
            }
        }
        check.facts(check.of(text.toString()), 5, 62, 61, 59, 55, 47, 31);
    }

    static void p03_nearAFirstThatIsNotTold(Check check) {
        check.yardFault("near @a b;", 2);
        check.yardFault(A + "near @b a;", 2);
    }

    static void p03_nearASecondThatIsNotTold(Check check) {
        check.yardFault(A + "near a @b;", 2);
    }

    static void p03_nearOneThatIsToldLater(Check check) {
        check.yardFault(A + "near a @b;" + B, 2);
        check.yardFault("near @a b;" + A + B, 2);
    }

    static void p03_nearAStage(Check check) {
        check.yardFault(A + "stage s wants 1 to 1;near a @s;", 2);
        check.yardFault(A + "stage s wants 1 to 1;near @s a;", 2);
    }

    static void p03_nearItself(Check check) {
        check.yardFault(A + "near a @a;", 3);
    }

    static void p03_twoNearTwice(Check check) {
        check.yardFault(A + B + "near a b;near a @b;", 3);
    }

    static void p03_twoNearTwiceFromTheOther(Check check) {
        check.yardFault(A + B + "near a b;near b @a;", 3);
    }

    static void p03_nearItselfThoughNearAnother(Check check) {
        check.yardFault(A + B + "near a b;near b @b;", 3);
    }

    // ---- stages

    static void p03_fiveStages(Check check) {
        MurmurSheds x = check.of(stages(5));
        check.due("stages", x.count(1), 5);
        check.due("the last one", x.stage(4, 0), 4);
        check.due("no sixth", x.stage(5, 0), -1);
    }

    static void p03_theWordStageOfASixthIsOneTooMany(Check check) {
        check.yardFault(stages(5) + "@stage x wants 1 to 1;", 5);
        check.yardFault(stages(5) + "@stage", 5);
    }

    static void p03_sixShedsAndFiveStages(Check check) {
        MurmurSheds x = check.of(stages(5) + sheds(6));
        check.due("sheds and stages", x.count(0) * 10 + x.count(1), 65);
    }

    static void p03_stagesAreNumberedAsTold(Check check) {
        MurmurSheds x = check.of("stage z wants 1 to 2;" + A + "stage y wants 3 to 4;");
        check.due("the first", x.stage(0, 0) * 100 + x.stage(0, 1), 102);
        check.due("the second", x.stage(1, 0) * 100 + x.stage(1, 1), 304);
    }

    static void p03_wants0(Check check) {
        check.due("0 to 0", check.of("stage s wants 0 to 0;").stage(0, 1), 0);
    }

    static void p03_wants60(Check check) {
        check.due("60 to 60", check.of("stage s wants 60 to 60;").stage(0, 0), 60);
    }

    static void p03_wants61(Check check) {
        check.yardFault("stage s wants @61 to 61;", 4);
    }

    static void p03_wantsLessThanTheFirst(Check check) {
        check.yardFault("stage s wants 1 to @0;", 4);
        check.yardFault("stage s wants 60 to @59;", 4);
    }

    static void p03_wantsTo99(Check check) {
        check.due("to 99", check.of("stage s wants 0 to 99;").stage(0, 1), 99);
    }

    static void p03_wantsTo100(Check check) {
        check.yardFault("stage s wants 0 to @100;", 4);
    }

    // ---- frost, roof

    static void p03_oneFrost(Check check) {
        check.due("frost", check.of("frost 9;").count(3), 9);
    }

    static void p03_twelveFrosts(Check check) {
        MurmurSheds x = check.of("frost 0 1 2 3 4 5 6 7 8 9 8 7;");
        int[] due = {0, 1, 2, 3, 4, 5, 6, 7, 8, 9, 8, 7, 0, 1};
        for (int frost : due) {
            check.due("frost of night " + x.count(2), x.count(3), frost);
            x.night();
        }
    }

    static void p03_noFrostNumber(Check check) {
        check.yardFault("frost@;", 1);
    }

    static void p03_aThirteenthFrost(Check check) {
        check.yardFault("frost 0 0 0 0 0 0 0 0 0 0 0 0 @0;", 5);
        check.yardFault("frost 0 0 0 0 0 0 0 0 0 0 0 0 @9 9;", 5);
    }

    static void p03_aThirteenthFrostOf10IsWrongTheLeast(Check check) {
        check.yardFault("frost 0 0 0 0 0 0 0 0 0 0 0 0 @10;", 4);
    }

    static void p03_aThirteenthFrostThatIsNoToken(Check check) {
        check.yardFault("frost 0 0 0 0 0 0 0 0 0 0 0 0 @00000;", 1);
    }

    static void p03_frost10(Check check) {
        check.yardFault("frost @10;", 4);
        check.yardFault("frost 0 0 0 0 0 0 0 0 0 0 0 @10;", 4);
    }

    static void p03_frost9And0(Check check) {
        check.of("frost 9 0;");
    }

    static void p03_frostTwice(Check check) {
        check.yardFault("frost 1;@frost 1;", 3);
        check.yardFault("frost 0;" + A + "@frost;", 3);
    }

    static void p03_withoutFrostItIs0(Check check) {
        MurmurSheds x = check.of(A);
        check.due("frost", x.count(3), 0);
        x.night();
        check.due("frost", x.count(3), 0);
        check.due("high", x.shed(0, 3), 1);
    }

    static void p03_roof5And60(Check check) {
        check.due("roof", check.of("roof 5;").count(4), 5);
        check.due("roof", check.of("roof 60;").count(4), 60);
    }

    static void p03_roof4(Check check) {
        check.yardFault("roof @4;", 4);
        check.yardFault("roof @0;", 4);
    }

    static void p03_roof61(Check check) {
        check.yardFault("roof @61;", 4);
    }

    static void p03_roofTwice(Check check) {
        check.yardFault("roof 5;@roof 5;", 3);
    }

    static void p03_withoutRoofItIs30(Check check) {
        MurmurSheds x = check.of(Check.shed("a", "plain", 9, 1));
        check.due("roof", x.count(4), 30);
        check.due("high at last", x.later(0, 60), 30);
    }
}
