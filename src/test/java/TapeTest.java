/** Promises 2 and 41 (what 11): the tape, and what its tokens are. */
public final class TapeTest {
    public static void main(String[] args) {
        Check check = new Check();
        signs(check);
        length(check);
        tokens(check);
        taken(check);
        check.end();
    }

    private static void signs(Check check) {
        MurmurSheds x = new MurmurSheds();
        check.due("feed of nothing", x.feed(0, 0, 0), 0);
        check.due("feed of 10, 31, 32, 126, 127, 9, 13, 128", x.feed(0x0A1F207E7F090D80L, 0, 0), 3);
        check.due("feed of 255s", x.feed(-1L, -1L, -1L), 3);
        check.due("feed in each long", x.feed(' ', ' ', ' '), 6);
        check.due("count(11)", x.count(11), 6);
        check.due("a ~ is no token", x.yard(), 1 + 16 * 2);
        check.due("count(11)", x.count(11), 0);
        // "roof 5;" by bytes, the highest first: of a, then of b, then of c.
        check.due("in order", x.feed(0x726F6FL << 40, 0x6620L << 24, 0x353BL), 7);
        check.due("yard", x.yard(), 0);
        check.due("roof", x.count(4), 5);
    }

    private static void length(Check check) {
        MurmurSheds x = new MurmurSheds();
        long blanks = 0x2020202020202020L;
        for (int n = 1; n <= 41; n++) {
            check.due("feed", x.feed(blanks, blanks, blanks), 24 * n);
        }
        // 984 are there, 16 more fit: the end of what is fed is left out.
        check.due("up to 1000", x.feed(blanks, blanks, 0x7878787878787878L), 1000);
        check.due("no more", x.feed(0x7878787878787878L, 0, 0), 1000);
        check.due("all blanks, so no fault", x.yard(), 0);
        check.due("empty", x.count(11), 0);
        String full = " ".repeat(992) + "roof 40;";
        check.due("tell", Check.tell(x, full), 1000);
        check.due("yard", x.yard(), 0);
        check.due("roof", x.count(4), 40);
        check.due("tell", Check.tell(x, " " + full), 1000);
        check.due("its end is lost", x.yard(), 1 + 16 * 1000);
    }

    private static void tokens(Check check) {
        MurmurSheds x = new MurmurSheds();
        check.due("no blanks", Check.yard(x, "shed a plain heat 4crowns 5;roof7;frost3 4;"), 0);
        check.due("heat", x.shed(0, 1), 4);
        check.due("roof", x.count(4), 7);
        check.due("frost", x.count(3), 3);
        check.due("many blanks", Check.yard(x, "\n \n shed\nab  plain\nheat\n4 \ncrowns 5\n;\n "), 0);
        check.due("eight letters", Check.yard(x, "shed abcdefgh plain heat 4 crowns 5;"), 0);
        check.due("nine letters", Check.yard(x, "shed abcdefghi plain heat 4 crowns 5;"), 1 + 16 * 5);
        check.due("four digits", Check.yard(x, "roof 0020;"), 0);
        check.due("five digits", Check.yard(x, "roof 00020;"), 1 + 16 * 5);
        check.due("a capital", Check.yard(x, "Roof 20;"), 1);
        check.due("a capital within", Check.yard(x, "roOf 20;"), 1);
        check.due("a digit behind a word", Check.yard(x, "shed a1 plain heat 4 crowns 5;"), 1 + 16 * 6);
        check.due("another sign", Check.yard(x, "roof 20, ;"), 1 + 16 * 7);
        check.due("a name of two words", Check.yard(x, "shed a b plain heat 4 crowns 5;"), 1 + 16 * 7);
    }

    private static void taken(Check check) {
        MurmurSheds x = new MurmurSheds();
        Check.tell(x, "night;");
        check.due("week", x.week(), 0);
        check.due("taken", x.count(11), 0);
        Check.tell(x, "night");
        check.due("a fault at the end", x.week(), 1 + 16 * 5);
        check.due("taken, too", x.count(11), 0);
        Check.tell(x, "night  \n");
        check.due("the end is the text's length", x.week(), 1 + 16 * 8);
        check.due("the week stays", x.count(8), 1);
        check.due("an empty week", x.week(), 0);
        check.due("no lines", x.count(8), 0);
    }
}
