/** Promises 33 to 35: an unknown shed, by its creaks. */
public final class SeenTest {
    // Creaks a night: 10, 20, 30; nothing from the roof on.
    private static final String YARD = "shed a plain heat 1 crowns 10;shed b plain heat 2 crowns 10;"
        + "shed c plain heat 3 crowns 10;";

    public static void main(String[] args) {
        Check check = new Check();
        bounds(check);
        who(check);
        whenAsked(check);
        ask(check);
        askLate(check);
        check.end();
    }

    private static void bounds(Check check) {
        MurmurSheds x = check.of(YARD);
        check.due("see(0, 1)", x.see(0, 1, true), false);
        check.due("see(21, 1)", x.see(21, 1, true), false);
        check.due("see(1, 0)", x.see(1, 0, true), false);
        check.due("see(1, 401)", x.see(1, 401, false), false);
        check.due("see(-1, -1)", x.see(-1, -1, false), false);
        check.due("seen", x.count(9), 0);
        for (int n = 1; n <= 8; n++) {
            check.due("see", x.see(n == 8 ? 20 : n, n == 7 ? 400 : 1, n != 7), true);
            check.due("seen", x.count(9), n);
        }
        check.due("a ninth", x.see(1, 1, true), false);
        check.due("seen", x.count(9), 8);
        check.due("in the 20th a alone creaks", x.who(), 1);
        check.due("a week does not forget", Check.week(x, "night;"), 0);
        check.due("seen", x.count(9), 8);
    }

    private static void who(Check check) {
        MurmurSheds x = check.of(YARD);
        check.due("all", x.who(), 7);
        x.mark(0, false);
        int[][] due = {{10, 7, 0}, {11, 6, 1}, {20, 6, 1}, {21, 4, 3}, {30, 4, 3}, {31, 0, 7}, {400, 0, 7}, {1, 7, 0}};
        for (int[] one : due) {
            x.see(1, one[0], true);
            check.due("so much or more: " + one[0], x.who(), one[1]);
            x.mark(0, true);
            x.see(1, one[0], false);
            check.due("less: " + one[0], x.who(), one[2]);
            x.mark(0, true);
        }
        x.see(1, 11, true);
        x.see(2, 30, false);
        check.due("both", x.who(), 2);
        x.see(11, 1, false);
        check.due("in the 11th b creaks yet", x.who(), 0);
        check.due("no sheds", new MurmurSheds().who(), 0);
        check.due("no sheds", new MurmurSheds().see(1, 1, true), true);
    }

    private static void whenAsked(Check check) {
        MurmurSheds x = check.of(YARD);
        x.see(2, 15, true);
        check.due("now", x.who(), 6);
        x.heat(0, 5);
        check.due("heated", x.who(), 7);
        check.nights(x, 1);
        x.heat(2, 0);
        check.due("by the night it is asked in", x.who(), 3);
        x.light(1);
        check.due("lit for one night", x.who(), 3);
        x.night();
        x.light(1);
        x.see(1, 1, true);
        check.due("lit for that night", x.who(), 1);
        check.due("nothing is done", x.count(2), 2);
    }

    private static void ask(Check check) {
        MurmurSheds x = check.of(YARD);
        check.due("two and one", x.ask(), 1011);
        x.see(1, 11, true);
        check.due("b and c", x.ask(), 1021);
        x.see(1, 21, true);
        check.due("one alone", x.ask(), -1);
        x.see(1, 31, true);
        check.due("none", x.ask(), -1);
        check.due("no sheds", new MurmurSheds().ask(), -1);
        MurmurSheds same = check.of("shed a plain heat 2 crowns 10;shed b plain heat 4 crowns 5;roof 60;grows 4*(many=5)+2*(many=10);");
        check.due("b is at the roof by then", same.ask(), 16001);
        MurmurSheds four = check.of("shed a plain heat 1 crowns 10;shed b plain heat 1 crowns 10;"
            + "shed c plain heat 1 crowns 10;shed d plain heat 9 crowns 10;grows 1+8*(date=1)*(warm=9)+3*(date=2)*(8<warm);");
        check.due("three and one", four.ask(), 2011);
    }

    private static void askLate(Check check) {
        String twins = "shed a plain heat 1 crowns 20;shed b plain heat 0 crowns 20;roof 60;";
        check.due("in the 20th", check.of(twins + "grows warm*(date=19);").ask(), 20001);
        check.due("in the 21st", check.of(twins + "grows warm*(date=20);").ask(), -1);
        check.due("the most", check.of("shed a early heat 9 crowns 20;shed b plain heat 9 crowns 20;").ask(), 1181);
        MurmurSheds halves = check.of("shed a plain heat 1 crowns 1;shed b plain heat 2 crowns 1;shed c plain heat 3 crowns 1;"
            + "shed d plain heat 4 crowns 1;roof 60;grows 1+(1<warm)*(0<date)+(2<warm)*(0<date)*7;");
        // In the first all creak alike; in the second 1, 2, 9, 9: halves from 3 on.
        check.due("the greater number is the least", halves.ask(), 2003);
    }
}
