/** Promises 25 to 29: what is near, and who has heard of whom by when. */
public final class NearTest {
    private static final String SHEDS = "shed a plain heat 1 crowns 1;shed b plain heat 1 crowns 1;"
        + "shed c plain heat 1 crowns 1;shed d plain heat 1 crowns 1;shed e plain heat 1 crowns 1;"
        + "shed f plain heat 1 crowns 1;";

    public static void main(String[] args) {
        Check check = new Check();
        parted(check);
        chain(check);
        ring(check);
        news(check);
        wrong(check);
        check.end();
    }

    private static void parted(Check check) {
        MurmurSheds x = check.of(SHEDS + "near a e;near e c;near f b;");
        int[] reach = {21, 34, 21, 8, 21, 34};
        int[][] far = {{0, -1, 2, -1, 1, -1}, {-1, 0, -1, -1, -1, 1}, {2, -1, 0, -1, 1, -1},
            {-1, -1, -1, 0, -1, -1}, {1, -1, 1, -1, 0, -1}, {-1, 1, -1, -1, -1, 0}};
        for (int i = 0; i < 6; i++) {
            check.due("reach(" + i + ")", x.reach(i), reach[i]);
            for (int j = 0; j < 6; j++) {
                check.due("far(" + i + ", " + j + ")", x.far(i, j), far[i][j]);
            }
        }
        check.due("parts", x.parts(), 3);
        check.due("news", x.news(), 2);
        check.due("none near", check.of(SHEDS).parts(), 6);
        check.due("none near", check.of(SHEDS).news(), 0);
        check.due("none near", check.of(SHEDS).reach(5), 32);
    }

    private static void chain(Check check) {
        MurmurSheds x = check.of(SHEDS + "near f e;near e d;near d c;near c b;near b a;");
        check.due("reach(0)", x.reach(0), 63);
        check.due("far(0, 5)", x.far(0, 5), 5);
        check.due("far(5, 1)", x.far(5, 1), 4);
        check.due("parts", x.parts(), 1);
        check.due("news", x.news(), 5);
        check.nights(x, 2);
        check.due("heard(0)", x.heard(0), 7);
        check.due("heard(3)", x.heard(3), 62);
        check.due("news", x.news(), 3);
        check.nights(x, 3);
        check.due("heard(0)", x.heard(0), 63);
        check.due("news", x.news(), 0);
    }

    private static void ring(Check check) {
        MurmurSheds x = check.of(SHEDS + "near a b;near b c;near c d;near d e;near e f;near f a;near a d;");
        check.due("far(0, 3)", x.far(0, 3), 1);
        check.due("far(1, 4)", x.far(1, 4), 3);
        check.due("far(2, 5)", x.far(2, 5), 3);
        check.due("far(0, 2)", x.far(0, 2), 2);
        check.due("news", x.news(), 3);
    }

    private static void news(Check check) {
        String pair = "shed a plain heat 9 crowns 1;shed b plain heat 9 crowns 1;near a b;";
        check.due("by 60", check.of(pair + "grows date=59;").news(), 60);
        check.due("by 61", check.of(pair + "grows date=60;").news(), -1);
        MurmurSheds x = check.of("shed a plain heat 9 crowns 1;shed b plain heat 0 crowns 1;near a b;");
        check.due("who never creaks", x.news(), -1);
        x.heat(1, 1);
        x.light(1);
        check.due("lit at first", x.news(), 2);
    }

    private static void wrong(Check check) {
        MurmurSheds x = check.of("shed a plain heat 1 crowns 1;shed b plain heat 1 crowns 1;near a b;");
        check.due("reach(2)", x.reach(2), -1);
        check.due("reach(-1)", x.reach(-1), -1);
        check.due("reach(32)", x.reach(32), -1);
        check.due("far(0, 2)", x.far(0, 2), -1);
        check.due("far(2, 0)", x.far(2, 0), -1);
        check.due("far(2, 2)", x.far(2, 2), -1);
        check.due("far(-1, 0)", x.far(-1, 0), -1);
        check.due("far(0, -1)", x.far(0, -1), -1);
        check.due("far(0, 32)", x.far(0, 32), -1);
        check.due("far(32, 0)", x.far(32, 0), -1);
        check.due("heard(2)", x.heard(2), -1);
        check.due("heard(-1)", x.heard(-1), -1);
        check.due("parts of a new one", new MurmurSheds().parts(), 0);
        check.due("news of a new one", new MurmurSheds().news(), 0);
    }
}
