/** Promises 5, 7 and 28: what a night does to each kind of shed, who creaks, pops and hears. */
public final class NightTest {
    private static final String YARD = "shed p plain heat 4 crowns 10;shed e early heat 4 crowns 5;"
        + "shed s shy heat 5 crowns 8;shed w wild heat 2 crowns 6;near p s;near w p;near s w;near e w;"
        + "frost 0 3;roof 14;";

    public static void main(String[] args) {
        Check check = new Check();
        kinds(check);
        laws(check);
        limits(check);
        heard(check);
        pops(check);
        wrong(check);
        check.end();
    }

    private static void heights(Check check, MurmurSheds x, int... due) {
        for (int i = 0; i < due.length; i++) {
            check.due("height of " + i + " in night " + x.count(2), x.shed(i, 3), due[i]);
        }
    }

    private static void kinds(Check check) {
        MurmurSheds x = check.of(YARD);
        check.due("near p", x.shed(0, 5), 12);
        check.due("near e", x.shed(1, 5), 8);
        check.due("near s", x.shed(2, 5), 9);
        check.due("near w", x.shed(3, 5), 7);
        check.due("night 0", x.night(), 0);
        heights(check, x, 4, 5, 5, 4);
        check.due("frost of night 1", x.count(3), 3);
        check.due("murmur", x.shed(0, 6), 4);
        check.due("murmur, cut", x.shed(3, 6), 2);
        check.due("light", x.light(0), true);
        check.due("lit", x.shed(0, 4), 1);
        check.due("night 1", x.night(), 0);
        heights(check, x, 4, 7, 6, 6);
        check.due("dark again", x.shed(0, 4), 0);
        check.due("night 2", x.night(), 14);
        heights(check, x, 8, 12, 11, 10);
        check.due("night 3", x.night(), 0);
        heights(check, x, 9, 13, 13, 12);
        check.due("creak up to the roof", x.creak(1, 1), 5);
        check.due("creak up to the roof", x.creak(3, 1), 12);
        check.due("night 4", x.night(), 1);
        heights(check, x, 13, 14, 14, 14);
        check.due("creak", x.creak(0, 1), 10);
        check.due("creak at the roof", x.creak(2, 1), 0);
        check.due("night 5", x.night(), 0);
        heights(check, x, 14, 14, 14, 14);
        check.due("night 6", x.night(), 0);
        heights(check, x, 14, 14, 14, 14);
    }

    private static int grownBy(Check check, String law) {
        MurmurSheds x = check.of("shed a plain heat 7 crowns 12;frost 0 2;roof 60;grows " + law + ";");
        x.night();
        int ahead = x.shed(0, 3);
        x.night();
        return x.shed(0, 3) - ahead;
    }

    private static void laws(Check check) {
        // In night 1: warm 5, many 12, date 1, tall what grew in night 0.
        check.due("warm", grownBy(check, "warm"), 5);
        check.due("many", grownBy(check, "many-5"), 7);
        check.due("date", grownBy(check, "date"), 1);
        check.due("tall", grownBy(check, "3-tall+(date=0)*0"), 0);
        check.due("tall", grownBy(check, "2+tall"), 4);
        check.due("* ahead of +", grownBy(check, "1+2*3"), 7);
        check.due("from the left", grownBy(check, "9-3-2"), 4);
        check.due("- and +", grownBy(check, "9-3+2"), 8);
        check.due("( )", grownBy(check, "(1+2)*2"), 6);
        check.due("<", grownBy(check, "(3<4)+(4<4)+(5<4)"), 1);
        check.due("=", grownBy(check, "(3=4)+(4=4)*2+(5=4)"), 2);
        check.due("+ ahead of <", grownBy(check, "5*(1+1<1+2)"), 5);
        check.due("not of 0", grownBy(check, "not 0*4"), 4);
        check.due("not of others", grownBy(check, "not 7+2"), 2);
        check.due("not not", grownBy(check, "not not 7+2"), 3);
        check.due("and", grownBy(check, "(2 and 4)+(2 and 0)*3+(0 and 2)*3+(0 and 0)*3"), 1);
        check.due("or", grownBy(check, "(2 or 4)+(2 or 0)+(0 or 2)+(0 or 0)*3"), 3);
        check.due("and, or from the left", grownBy(check, "(1 or 1 and 0)*4+2"), 2);
        check.due("or, and from the left", grownBy(check, "(0 and 1 or 1)*4+2"), 6);
        check.due("less than a - b", grownBy(check, "(1-2<0)*3"), 3);
        check.due("9 at most", grownBy(check, "10"), 9);
        check.due("0 at least", grownBy(check, "1-2"), 0);
        check.due("warm is 0 at least", grownBy(check, "warm+(warm-9<0-3)"), 6);
        // 9999 * 9999 * 9999 wraps to a number below 0, and its other side to one above.
        check.due("ints wrap", grownBy(check, "9999*9999*43"), 9999 * 9999 * 43 < 0 ? 0 : 9);
        check.due("ints wrap", grownBy(check, "0-9999*9999*43"), 9999 * 9999 * 43 < 0 ? 9 : 0);
        check.due("as deep as can be", grownBy(check, "1+1*(1+1*(1+1*(1+1*(1<1+1*1 and 1<2 or 0))))"), 5);
        check.due("frost below warm", grownBy(check, "warm*(warm<6)"), 5);
    }

    private static void limits(Check check) {
        MurmurSheds x = check.of("shed e early heat 9 crowns 1;shed w wild heat 9 crowns 1;shed s shy heat 9 crowns 2;"
            + "shed o plain heat 0 crowns 2;near e w;near w s;near w o;near o s;roof 40;grows warm+7*(date<1);");
        // Nine at most by the law, and what the kinds add goes beyond.
        x.night();
        heights(check, x, 10, 11, 9, 7);
        x.light(3);
        x.light(2);
        x.night();
        heights(check, x, 19, 22, 9, 7);
        x.light(3);
        x.night();
        // An early one that is 10 high has no more; a shy one has the half of 9, cut.
        heights(check, x, 28, 33, 13, 7);
        check.due("lit", x.count(6), 0);
        MurmurSheds low = check.of("shed e early heat 9 crowns 1;roof 5;");
        check.due("no pop below a low roof", low.night(), 0);
        heights(check, low, 5);
        check.due("creak", low.creak(0, 1), 0);
    }

    private static void heard(Check check) {
        MurmurSheds x = check.of("shed a plain heat 3 crowns 1;shed b plain heat 1 crowns 1;shed c plain heat 2 crowns 1;"
            + "shed d plain heat 0 crowns 1;shed e plain heat 1 crowns 1;near a b;near b c;near d c;frost 0 0 3;");
        int[] first = {1, 2, 4, 8, 16};
        int[] second = {3, 7, 6, 12, 16};
        int[] third = {7, 7, 7, 14, 16};
        for (int i = 0; i < 5; i++) {
            check.due("heard first", x.heard(i), first[i]);
        }
        x.night();
        for (int i = 0; i < 5; i++) {
            check.due("heard second", x.heard(i), second[i]);
        }
        x.night();
        for (int i = 0; i < 5; i++) {
            check.due("heard third", x.heard(i), third[i]);
        }
        x.night();
        check.due("nobody creaks in a frost of 3", x.heard(3), 14);
        x.night();
        check.due("who does not creak is not heard", x.heard(2), 7);
        check.due("but hears", x.heard(3), 15);
        MurmurSheds y = check.of("shed a plain heat 3 crowns 1;shed b plain heat 3 crowns 1;near a b;");
        y.light(0);
        y.night();
        check.due("a lit one is not heard", y.heard(1), 2);
        check.due("a lit one hears", y.heard(0), 3);
    }

    private static void pops(Check check) {
        MurmurSheds x = check.of("shed a plain heat 5 crowns 2;shed b plain heat 9 crowns 2;");
        check.due("night", x.night(), 0);
        check.due("to 10 and to 18", x.night(), 3);
        check.due("not again", x.night(), 0);
        x.pull(0, 2);
        check.due("no crowns, no height", x.shed(0, 3), 0);
        check.due("night", x.night(), 0);
        check.due("no crowns, no growth", x.shed(0, 3), 0);
        check.due("nor creaks", x.creak(0, 1), 0);
        x.light(0);
        x.night();
        check.due("dark again", x.shed(0, 4), 0);
    }

    private static void wrong(Check check) {
        MurmurSheds x = check.of("shed a plain heat 5 crowns 2;");
        check.due("shed(1, 0)", x.shed(1, 0), -2);
        check.due("shed(-1, 0)", x.shed(-1, 0), -2);
        check.due("shed(0, 7)", x.shed(0, 7), -2);
        check.due("shed(0, -1)", x.shed(0, -1), -2);
        check.due("shed(6, 5)", x.shed(6, 5), -2);
        check.due("heard(1)", x.heard(1), -1);
        check.due("heard(-1)", x.heard(-1), -1);
    }
}
