/** Promises 3 and 4: yards and weeks without and with each of the faults. */
public final class FaultTest {
    private static final String A = "shed a plain heat 1 crowns 1;";
    private static final String B = "shed b wild heat 9 crowns 20;";
    private static final String C = "shed c shy heat 0 crowns 3;";

    private final Check check = new Check();

    public static void main(String[] args) {
        FaultTest test = new FaultTest();
        test.yards();
        test.misplaced();
        test.reserved();
        test.names();
        test.again();
        test.numbers();
        test.tooMany();
        test.laws();
        test.lawDepth();
        test.weeks();
        test.stays();
        test.anew();
        test.check.end();
    }

    /** The text must have no fault. */
    private void fine(String text) {
        check.due("yard " + text, Check.yard(new MurmurSheds(), text), 0);
    }

    /** What stands behind @ must be the faulty token. */
    private void fault(String text, int kind) {
        int place = text.indexOf('@');
        String told = text.substring(0, place) + text.substring(place + 1);
        check.due("yard " + text, Check.yard(new MurmurSheds(), told), kind + 16 * place);
    }

    private void weekFault(String text, int kind) {
        MurmurSheds x = check.of(A + B + "stage st wants 1 to 2;");
        int place = text.indexOf('@');
        String told = place < 0 ? text : text.substring(0, place) + text.substring(place + 1);
        check.due("week " + text, Check.week(x, told), kind == 0 ? 0 : kind + 16 * place);
    }

    private void yards() {
        fine("");
        fine(A);
        fine(A + B + "near a b;");
        fine("stage st wants 0 to 0;stage su wants 60 to 99;" + A);
        fine("frost 0 1 2 3 4 5 6 7 8 9 0 1;roof 5;grows 1;");
        fine("roof 60;");
        fine("shed warm early heat 0 crowns 1;shed tall plain heat 1 crowns 2;near warm tall;stage date wants 1 to 1;");
        MurmurSheds x = check.of(C + B + A + "near c a;stage st wants 7 to 9;roof 33;frost 4 2;");
        int[][] due = {{2, 0, 3, 0, 0, 4, 0}, {3, 9, 20, 0, 0, 0, 0}, {0, 1, 1, 0, 0, 1, 0}};
        for (int shed = 0; shed < 3; shed++) {
            for (int what = 0; what < 7; what++) {
                check.due("shed(" + shed + ", " + what + ")", x.shed(shed, what), due[shed][what]);
            }
        }
        check.due("roof", x.count(4), 33);
        check.due("frost", x.count(3), 4);
        check.due("another yard", Check.yard(x, "shed q early heat 2 crowns 4;"), 0);
        check.due("its roof", x.count(4), 30);
        check.due("its frost", x.count(3), 0);
        check.due("its stages", x.count(1), 0);
        check.due("its kind", x.shed(0, 0), 1);
        check.due("nothing near", x.shed(0, 5), 0);
    }

    private void misplaced() {
        fault("@yard;", 1);
        fault("@7;", 1);
        fault("@;", 1);
        fault(A + "@;", 1);
        fault("@night;", 1);
        fault("shed@", 1);
        fault("shed @7", 1);
        fault("shed a @red heat 1 crowns 1;", 1);
        fault("shed a @shed heat 1 crowns 1;", 1);
        fault("shed a plain @crowns 1 heat 1;", 1);
        fault("shed a plain heat @a", 1);
        fault("shed a plain heat 1 @1", 1);
        fault("shed a plain heat 1 crowns @;", 1);
        fault("shed a plain heat 1 crowns 1@", 1);
        fault("shed a plain heat 1 crowns 1 @roof 20;", 1);
        fault("near @7", 1);
        fault(A + B + "near @heat b;", 1);
        fault(A + B + "near a @;", 1);
        fault(A + B + C + "near a b @c;", 1);
        fault("stage @stage", 1);
        fault("stage a @want 1 to 2;", 1);
        fault("stage a wants 1 @2", 1);
        fault("stage a wants 1 to @to", 1);
        fault("stage a wants 1 to 2 @3;", 1);
        fault("frost @;", 1);
        fault("frost 1 @a;", 1);
        fault("roof @;", 1);
        fault("roof 20 @20;", 1);
        fault("roof @-20;", 1);
        fault("roof 20@", 1);
    }

    private void reserved() {
        String words = "shed heat crowns near stage wants to frost roof grows night light pull"
            + " plain early shy wild not and or";
        for (String word : words.split(" ")) {
            fault("shed @" + word + " plain heat 1 crowns 1;", 1);
            fault("stage @" + word + " wants 1 to 2;", 1);
        }
        for (String word : "warm tall many date part test sum frosts yard week a red".split(" ")) {
            fine("shed " + word + " plain heat 1 crowns 1;");
        }
    }

    private void names() {
        fault("near @a b;", 2);
        fault(A + "near a @b;", 2);
        fault(A + "near a @b;" + B, 2);
        fault(A + "stage st wants 1 to 2;near a @st;", 2);
        fault("stage st wants 1 to 2;near @st st;", 2);
        fault(A + "near @aa a;", 2);
    }

    private void again() {
        fault(A + "shed @a plain heat 1 crowns 1;", 3);
        fault(A + "stage @a wants 1 to 2;", 3);
        fault("stage a wants 1 to 2;stage @a wants 1 to 2;", 3);
        fault("stage a wants 1 to 2;shed @a plain heat 1 crowns 1;", 3);
        fault(A + B + "near a @a;", 3);
        fault(A + B + "near a b;near a @b;", 3);
        fault(A + B + "near a b;near b @a;", 3);
        fine(A + B + C + "near a b;near c a;near b c;");
        fault("frost 1;@frost 1;", 3);
        fault("frost 0;@frost 1;", 3);
        fault("roof 30;" + A + "@roof 30;", 3);
        fault("grows warm;roof 30;@grows 1;", 3);
        fault("grows 0;@grows", 3);
    }

    private void numbers() {
        fine("shed a plain heat 0 crowns 20;");
        fault("shed a plain heat @10 crowns 1;", 4);
        fault("shed a plain heat 9 crowns @0;", 4);
        fault("shed a plain heat 9 crowns @21;", 4);
        fault("stage a wants @61 to 70;", 4);
        fault("stage a wants 9 to @8;", 4);
        fault("stage a wants 60 to @100;", 4);
        fine("stage a wants 9 to 9;");
        fault("frost @10;", 4);
        fault("frost 0 9 @10;", 4);
        fault("roof @4;", 4);
        fault("roof @61;", 4);
        fault("roof @9999;roof 5;", 4);
    }

    private void tooMany() {
        StringBuilder sheds = new StringBuilder();
        StringBuilder stages = new StringBuilder();
        for (char sign = 'a'; sign < 'g'; sign++) {
            sheds.append("shed s").append(sign).append(" plain heat 1 crowns 1;");
            if (sign < 'f') {
                stages.append("stage t").append(sign).append(" wants 1 to 1;");
            }
        }
        fine(sheds.toString() + stages);
        fault(sheds + "@shed", 5);
        fault(stages + "@stage sa plain", 5);
        fault(sheds.toString() + stages + "@shed sa", 5);
        fine("frost 1 1 1 1 1 1 1 1 1 1 1 1;");
        fault("frost 1 1 1 1 1 1 1 1 1 1 1 1 @1;", 5);
        fault("frost 1 1 1 1 1 1 1 1 1 1 1 1 @0;", 5);
        fault("frost 1 1 1 1 1 1 1 1 1 1 1 1 @9;", 5);
        fault("frost 1 1 1 1 1 1 1 1 1 1 1 1 @10;", 4);
        fault("frost 1 1 1 1 1 1 1 1 1 1 1 1 @a;", 1);
    }

    private void laws() {
        fine("grows 9999;");
        fine("grows warm+tall-many*date;");
        fine("grows 1<2 and 3=4 or not 5;");
        fine("grows (1<2)<3;");
        fine("grows not not 1;");
        fine("grows not 1*2+not(3);");
        fault("grows @;", 1);
        fault("grows @heat;", 1);
        fault("grows @frost;", 1);
        fault("grows @cold;", 1);
        fault("grows @-1;", 1);
        fault("grows @12345;", 1);
        fault("grows 1 @2;", 1);
        fault("grows 1<2@<3;", 1);
        fault("grows 1=2@=3;", 1);
        fault("grows 1+@;", 1);
        fault("grows 1*@*2;", 1);
        fault("grows 1 and@", 1);
        fault("grows 1 @not 2;", 1);
        fault("grows (1@;", 1);
        fault("grows (@);", 1);
        fault("grows 1@);", 1);
        fault("grows (1+2@", 1);
        fault("grows not@;", 1);
        fault("grows warm@", 1);
    }

    private void lawDepth() {
        fine("grows ((((1))));");
        fine("grows ((((1))))+((((2))))*not not not not 3;");
        fault("grows (((((@1)))));", 5);
        fault("grows (((((@(1))))));", 5);
        fault("grows (((((@not 1)))));", 5);
        fault("grows not not not not not @warm;", 5);
        fault("grows not not not not not @not 1;", 5);
        fault("grows not(not(not @1));", 5);
        fault("grows ((((1+not @1))));", 5);
        fault("grows (((((@;", 1);
        fault("grows (((((@)))));", 1);
        fault("grows not not not not not @heat;", 1);
        fine("grows not(not(1));");
    }

    private void weeks() {
        weekFault("", 0);
        weekFault("night;heat a 0;heat b 9;light a;pull b 1;pull b 20;", 0);
        weekFault("@rest;", 1);
        weekFault("@;", 1);
        weekFault("@shed a plain heat 1 crowns 1;", 1);
        weekFault("night @1;", 1);
        weekFault("night@", 1);
        weekFault("heat @4;", 1);
        weekFault("heat @night 4;", 1);
        weekFault("heat a @;", 1);
        weekFault("heat a 4 @4;", 1);
        weekFault("light@;", 1);
        weekFault("light a @1;", 1);
        weekFault("pull a@;", 1);
        weekFault("pull a 1@", 1);
        weekFault("heat @c 4;", 2);
        weekFault("light @st;", 2);
        weekFault("pull @ab 1;", 2);
        weekFault("heat a @10;", 4);
        weekFault("pull a @0;", 4);
        weekFault("pull a @21;", 4);
        weekFault("night;".repeat(40), 0);
        weekFault("night;".repeat(40) + "@night;", 5);
        weekFault("night;".repeat(40) + "@heat c 99;", 5);
        weekFault("night;".repeat(40) + "@rest;", 1);
        weekFault("night;".repeat(40) + "@;", 1);
        check.due("a week without a yard", Check.week(new MurmurSheds(), "night;light a;"), 2 + 16 * 12);
    }

    private void stays() {
        MurmurSheds x = check.of(A + B + "near a b;roof 9;frost 1 2;grows 3;stage st wants 0 to 9;");
        check.due("week", Check.week(x, "night;light a;"), 0);
        x.night();
        x.see(1, 1, true);
        x.mark(3, false);
        check.due("a fault", Check.yard(x, "shed z early heat 1 crowns 2;roof 44;frost 7;grows 9;frost 8;"), 3 + 16 * 53);
        check.due("a fault", Check.week(x, "night;night;night;nights;"), 1 + 16 * 18);
        int[] counts = {2, 1, 1, 2, 9, 21, 0, 0, 2, 1, 1, 0};
        for (int what = 0; what < counts.length; what++) {
            check.due("count(" + what + ")", x.count(what), counts[what]);
        }
        x.night();
        check.due("the law stays", x.shed(0, 3), 6);
        check.due("the mark stays", x.mark(3, true), true);
        check.due("a yard", Check.yard(x, A), 0);
        int[] after = {1, 0, 0, 0, 30, 1, 0, 0, 0, 0, 0, 0};
        for (int what = 0; what < after.length; what++) {
            check.due("count(" + what + ") of the new one", x.count(what), after[what]);
        }
        check.due("no mark", x.mark(3, true), false);
        check.due("heard", x.heard(0), 1);
        check.due("high", x.shed(0, 3), 0);
        x.night();
        check.due("without a law", x.shed(0, 3), 1);
    }

    /** Nothing of the yards ahead is left in one that is told. */
    private void anew() {
        MurmurSheds x = check.of(A + B + "near a b;stage st wants 0 to 0;frost 3;roof 50;grows 9;");
        for (int n = 0; n < 4; n++) {
            Check.week(x, "night;");
            x.see(1, 1, true);
            x.night();
            x.light(1);
            check.due("what can be undone", x.count(10), 2);
            check.due("lit", x.count(6), 2);
            check.due("yard", Check.yard(x, A + B), 0);
            int[] counts = {2, 0, 0, 0, 30, 21, 0, 0, 0, 0, 0, 0};
            for (int what = 0; what < counts.length; what++) {
                check.due("count(" + what + ")", x.count(what), counts[what]);
            }
            check.due("near", x.shed(0, 5) + x.shed(1, 5), 0);
            check.due("undo", x.undo(), false);
            check.due("stage", x.stage(0, 0), -1);
            check.due("later", x.later(0, 1), 1);
        }
    }
}
