/** Boundary cases of promise 3 (how a law is told) and of promise 7 (what it amounts to). */
final class LawEdges {
    private LawEdges() {
    }

    private static void fault(Check check, String law, int kind) {
        check.yardFault("grows " + law, kind);
    }

    /** What a plain shed (heat 3, 12 crowns, night 0, roof 60) grows by in its first night. */
    private static void grown(Check check, String law, int due) {
        MurmurSheds x = check.of("shed a plain heat 3 crowns 12;roof 60;grows " + law + ";");
        x.night();
        check.due("grown by " + law, x.shed(0, 3), due);
    }

    /** What a plain shed of this heat grows by in a night of this frost. */
    private static void grown(Check check, int heat, int frost, String law, int due) {
        MurmurSheds x = check.of(Check.shed("a", "plain", heat, 1) + "frost " + frost + ";grows " + law + ";");
        x.night();
        check.due("grown by " + law + " at heat " + heat + " and frost " + frost, x.shed(0, 3), due);
    }

    // ---- told

    static void p03_growsTwice(Check check) {
        check.yardFault("grows 1;@grows 1;", 3);
        check.yardFault("grows warm;@grows warm;", 3);
    }

    static void p03_growsNothing(Check check) {
        fault(check, "@;", 1);
        fault(check, "@", 1);
        fault(check, "(@);", 1);
    }

    static void p03_growsANumberOf4Digits(Check check) {
        grown(check, "9999=9999", 1);
        fault(check, "@10000;", 1);
    }

    static void p03_aLawThatEndsTooSoon(Check check) {
        for (String joiner : new String[] {"+", "-", "*", "<", "=", " and", " or"}) {
            fault(check, "1" + joiner + "@;", 1);
            fault(check, "1" + joiner + "@", 1);
        }
        fault(check, "not@;", 1);
        fault(check, "(1@;", 1);
        fault(check, "1@);", 1);
    }

    static void p03_aLawThatBeginsWithWhatJoins(Check check) {
        for (String joiner : new String[] {"+", "-", "*", "<", "=", "and", "or", ")"}) {
            fault(check, "@" + joiner + " 1;", 1);
        }
    }

    static void p03_onlyOneLessOrSameInATest(Check check) {
        fault(check, "1<2@<3;", 1);
        fault(check, "1<2@=3;", 1);
        fault(check, "1=2@<3;", 1);
        fault(check, "(1=2@=3);", 1);
        grown(check, "(1<2)<3", 1);
        grown(check, "1<2 and 2<3", 1);
    }

    static void p03_twoPartsWithoutAJoiner(Check check) {
        fault(check, "1 @2;", 1);
        fault(check, "warm @tall;", 1);
        fault(check, "(1)@(2);", 1);
        fault(check, "1 @not 2;", 1);
    }

    static void p03_aNameIsNoFact(Check check) {
        check.yardFault(Check.shed("a", "plain", 1, 1) + "grows @a;", 1);
        fault(check, "@heat;", 1);
        fault(check, "@frost;", 1);
        fault(check, "@roof;", 1);
        fault(check, "@crowns;", 1);
        fault(check, "@night;", 1);
    }

    static void p03_within4(Check check) {
        grown(check, "((((7))))", 7);
        grown(check, "((((warm))))", 3);
        grown(check, "not not not not 7", 1);
        grown(check, "not(not(7))", 1);
        grown(check, "(not(not 7))*5", 5);
    }

    static void p03_aNumberWithin5(Check check) {
        fault(check, "(((((@7)))));", 5);
        fault(check, "not not not not not @7;", 5);
        fault(check, "not(not(not @7));", 5);
        fault(check, "((not not(@7)));", 5);
    }

    static void p03_aFactWithin5(Check check) {
        fault(check, "(((((@warm)))));", 5);
        fault(check, "not not not not not @date;", 5);
    }

    static void p03_aNotWithin5(Check check) {
        fault(check, "(((((@not 1)))));", 5);
        fault(check, "not not not not not @not 1;", 5);
    }

    static void p03_bracketsWithin5(Check check) {
        fault(check, "(((((@(1))))));", 5);
        fault(check, "not not not not not @(1);", 5);
    }

    static void p03_withinIsLeftAgain(Check check) {
        grown(check, "((((1))))+((((2))))*not not not not 1", 3);
        fault(check, "((((1))))+(((((@2)))));", 5);
        fault(check, "((((1+not @1))));", 5);
        grown(check, "(((not 0+not 0+(1))))", 3);
    }

    static void p03_whatCantStandWithin5IsWrongTheLeast(Check check) {
        fault(check, "(((((@;", 1);
        fault(check, "(((((@)))));", 1);
        fault(check, "(((((@heat)))));", 1);
        fault(check, "not not not not not @and 1;", 1);
        fault(check, "(((((@10000)))));", 1);
    }

    static void p03_aLawUpToTheTapesEnd(Check check) {
        // 6 + 993 signs and the last ;
        String law = "1+".repeat(496) + "1";
        MurmurSheds x = check.of("grows " + law + ";");
        check.due("all of it is taken", x.count(11), 0);
        check.yardFault("grows " + law + "+@", 1);
    }

    static void p07_aLawUpToTheTapesEndGrows(Check check) {
        // 487 times 1 less 480.
        String law = "1+".repeat(7) + "1-" + "1-1+".repeat(230) + "1";
        String text = "shed a plain heat 0 crowns 1;grows " + law + ";";
        check.due("it fits", text.length() <= 1000, true);
        MurmurSheds x = check.of(text);
        x.night();
        check.due("high", x.shed(0, 3), 7);
    }

    // ---- amounts

    static void p07_withoutGrowsItIsWarm(Check check) {
        MurmurSheds x = check.of(Check.shed("a", "plain", 7, 1) + "frost 2;");
        x.night();
        check.due("high", x.shed(0, 3), 5);
    }

    static void p07_aLawOf0(Check check) {
        grown(check, "0", 0);
    }

    static void p07_aLawBelow0GrowsNothing(Check check) {
        grown(check, "0-1", 0);
        grown(check, "0-9999", 0);
    }

    static void p07_aLawOf9(Check check) {
        grown(check, "9", 9);
    }

    static void p07_aLawBeyond9GrowsBy9(Check check) {
        grown(check, "10", 9);
        grown(check, "9999", 9);
    }

    static void p07_productsWrap(Check check) {
        // 9999 * 9999 is 99,980,001: 21 times it is below 2,147,483,648, 22 times it is not.
        grown(check, "9999*9999*21", 9);
        grown(check, "9999*9999*22", 0);
        grown(check, "9999*9999*22<0", 1);
        grown(check, "9999*9999*43", 9);
    }

    static void p07_sumsWrap(Check check) {
        grown(check, "9999*9999*21+9999*9999", 0);
        grown(check, "9999*9999*21<9999*9999*21+9999*9999", 0);
        grown(check, "0-9999*9999*21-9999*9999", 9);
        grown(check, "9999*9999*21-9999*9999*21+4", 4);
    }

    static void p07_theLeastIntWraps(Check check) {
        // 2048 * 1024 * 1024 is 2,147,483,648, so the least int: less 1 is the greatest, and less itself is 0.
        grown(check, "2048*1024*1024", 0);
        grown(check, "2048*1024*1024-1", 9);
        grown(check, "0-2048*1024*1024", 0);
        grown(check, "2048*1024*1024-2048*1024*1024+5", 5);
        grown(check, "2048*1024*1024*2+6", 6);
        grown(check, "2048*1024*1024<2048*1024*1024-1", 1);
    }

    static void p07_warmIs0AtLeast(Check check) {
        grown(check, 3, 9, "warm", 0);
        grown(check, 3, 9, "warm+6", 6);
        grown(check, 3, 9, "(warm<0)+(warm=0)*2", 2);
        grown(check, 0, 9, "4+warm", 4);
    }

    static void p07_warmIsHeatLessFrost(Check check) {
        grown(check, 9, 0, "warm", 9);
        grown(check, 9, 8, "warm", 1);
        grown(check, 9, 9, "warm", 0);
    }

    static void p07_theDateOfTheFirstNightIs0(Check check) {
        grown(check, "1+date", 1);
        MurmurSheds x = check.of(Check.shed("a", "plain", 0, 1) + "roof 60;grows date;");
        check.nights(x, 5);
        check.due("0, 1, 2, 3, 4", x.shed(0, 3), 10);
    }

    static void p07_tallIs0AtFirst(Check check) {
        grown(check, "2+tall", 2);
        MurmurSheds x = check.of(Check.shed("a", "plain", 0, 1) + "roof 60;grows 1+tall;");
        check.nights(x, 3);
        check.due("1, 3, 7", x.shed(0, 3), 7);
    }

    static void p07_manyIsOfWhatIsLeft(Check check) {
        MurmurSheds x = check.of(Check.shed("a", "plain", 0, 20) + "roof 60;grows 9*(many=20)+3*(many=17);");
        check.nights(x, 2);
        x.pull(0, 3);
        x.night();
        check.due("9, 9, 3", x.shed(0, 3), 21);
    }

    static void p07_lessIsNotSame(Check check) {
        grown(check, "(2<3)*4+(3<3)*2+(4<3)", 4);
    }

    static void p07_sameIsNotLessNorMore(Check check) {
        grown(check, "(2=3)*4+(3=3)*2+(4=3)", 2);
    }

    static void p07_notOf0Is1AndOfAllElse0(Check check) {
        grown(check, "not 0", 1);
        grown(check, "not 1", 0);
        grown(check, "not 2", 0);
        grown(check, "not(0-1)", 0);
    }

    static void p07_whatIsNot0IsSo(Check check) {
        grown(check, "2 and 4", 1);
        grown(check, "(0-1) and (0-1)", 1);
        grown(check, "2 and 0", 0);
        grown(check, "0 and 2", 0);
        grown(check, "2 or 0", 1);
        grown(check, "0 or (0-2)", 1);
        grown(check, "0 or 0", 0);
        grown(check, "3 or 5", 1);
    }

    static void p07_whatIsNotSoIs0(Check check) {
        grown(check, "(0 and 1)+5", 5);
        grown(check, "(0 or 0)+5", 5);
        grown(check, "(3<3)+5", 5);
        grown(check, "(3=4)+5", 5);
        grown(check, "(not 1)+5", 5);
    }

    static void p07_whatIsSoIs1(Check check) {
        grown(check, "(7 and 8)+5", 6);
        grown(check, "(7 or 8)+5", 6);
        grown(check, "(3<9)+5", 6);
        grown(check, "(4=4)+5", 6);
        grown(check, "(not 0)+5", 6);
    }

    static void p07_allWaitWithin4(Check check) {
        // At each of the five depths an or, a <, a + and a * wait for what stands innermost.
        grown(check, "0 or 0<0+1*(".repeat(4) + "0 or 0<0+1*1" + ")".repeat(4), 1);
        grown(check, "0 or 0<0+1*(".repeat(4) + "0 or 0<0+1*0" + ")".repeat(4), 0);
        grown(check, "1 and 1=0+1*(".repeat(4) + "1 and 3=0+1*warm" + ")".repeat(4), 1);
    }

    static void p07_andAndOrGoFromTheLeft(Check check) {
        grown(check, "1 or 0 and 0", 0);
        grown(check, "0 and 0 or 1", 1);
        grown(check, "1 or (0 and 0)", 1);
    }

    static void p07_sumsAndProductsGoFromTheLeft(Check check) {
        grown(check, "9-4-3", 2);
        grown(check, "9-4+3", 8);
        grown(check, "1+2*3", 7);
        grown(check, "2*3+1", 7);
        grown(check, "9-2*3", 3);
    }

    static void p07_notHoldsOnePart(Check check) {
        grown(check, "not 0+3", 4);
        grown(check, "not 0*7", 7);
        grown(check, "not 5<1", 1);
    }
}
