import java.util.ArrayList;
import java.util.List;

/** Promises 36 to 39: pulling by turns, frosts by odds, the stump, and weeks by draws. */
public final class GameTest {
    public static void main(String[] args) {
        Check check = new Check();
        stick(check);
        stickByAllGames(check);
        stickNow(check);
        chance(check);
        chanceOfOthers(check);
        rests(check);
        restsOfAll(check);
        weeks(check);
        moreWeeks(check);
        weeksWrong(check);
        check.end();
    }

    private static MurmurSheds crowns(Check check, int... many) {
        StringBuilder text = new StringBuilder();
        for (int i = 0; i < many.length; i++) {
            text.append("shed s").append((char) ('a' + i)).append(" plain heat 9 crowns ").append(many[i]).append(';');
        }
        return check.of(text.toString());
    }

    private static void stick(Check check) {
        check.due("no sheds", new MurmurSheds().stick(), -1);
        check.due("1", crowns(check, 1).stick(), 1);
        check.due("3", crowns(check, 3).stick(), 3);
        check.due("4", crowns(check, 4).stick(), -1);
        check.due("5", crowns(check, 5).stick(), 1);
        check.due("20", crowns(check, 20).stick(), -1);
        check.due("1 2 3", crowns(check, 1, 2, 3).stick(), -1);
        check.due("4 1", crowns(check, 4, 1).stick(), 3);
        check.due("1 2", crowns(check, 1, 2).stick(), 5);
        check.due("5 2", crowns(check, 5, 2).stick(), 3);
        check.due("4 4 4 4 4 7", crowns(check, 4, 4, 4, 4, 4, 7).stick(), 1);
        check.due("1 1 1 1 1 3", crowns(check, 1, 1, 1, 1, 1, 3).stick(), 22);
    }

    /** Who is first wins a pair of sheds if some pull leaves the other one a pair that he can't win. */
    private static void stickByAllGames(Check check) {
        int[][] best = new int[21][21];
        for (int a = 0; a <= 20; a++) {
            for (int b = 0; b <= 20; b++) {
                best[a][b] = -1;
                for (int k = 3; k >= 1; k--) {
                    if (b >= k && best[a][b - k] == -1) {
                        best[a][b] = 4 + k;
                    }
                }
                for (int k = 3; k >= 1; k--) {
                    if (a >= k && best[a - k][b] == -1) {
                        best[a][b] = k;
                    }
                }
            }
        }
        for (int a = 1; a <= 20; a++) {
            for (int b = 1; b <= 20; b++) {
                check.due(a + " " + b, crowns(check, a, b).stick(), best[a][b]);
            }
        }
    }

    private static void stickNow(Check check) {
        MurmurSheds x = crowns(check, 3, 4, 5);
        check.due("3 4 5", x.stick(), 2);
        check.nights(x, 2);
        x.pull(0, 3);
        check.due("0 4 5", x.stick(), 7);
        x.pull(1, 3);
        check.due("0 1 5", x.stick(), -1);
        x.pull(1, 1);
        x.pull(2, 5);
        check.due("none is left", x.stick(), -1);
    }

    private static void chance(Check check) {
        MurmurSheds x = check.of("shed a plain heat 9 crowns 1;shed b early heat 1 crowns 1;roof 9;frost 9;");
        check.due("one", x.chance(0, 1, 3), 700000);
        check.due("two", x.chance(0, 2, 5), 750000);
        check.due("three", x.chance(0, 3, 3), 973000);
        check.due("six", x.chance(0, 6, 1), 999999);
        check.due("six", x.chance(0, 6, 9), 468559);
        check.due("never a frost", x.chance(0, 6, 0), 1000000);
        check.due("always a frost", x.chance(0, 6, 10), 0);
        check.due("as early as can be", x.chance(1, 4, 0), 0);
        // b grows by 1 or 2: nine in six nights with three of them mild or more.
        check.due("half", x.chance(1, 6, 5), 656250);
        check.due("all but two", x.chance(1, 5, 2), 737280);
        check.due("odds -1", x.chance(0, 1, -1), -1);
        check.due("odds 11", x.chance(0, 1, 11), -1);
        check.due("no nights", x.chance(0, 0, 5), -1);
        check.due("seven nights", x.chance(0, 7, 5), -1);
        check.due("chance(2, 1, 5)", x.chance(2, 1, 5), -1);
        check.due("chance(-1, 1, 5)", x.chance(-1, 1, 5), -1);
        check.due("nothing is done", x.count(2) + x.count(10), 0);
    }

    private static void chanceOfOthers(Check check) {
        MurmurSheds x = check.of("shed a plain heat 9 crowns 1;shed b plain heat 9 crowns 20;roof 18;");
        x.light(0);
        check.due("lit", x.chance(0, 2, 0), 0);
        check.due("lit", x.chance(0, 3, 5), 250000);
        x.night();
        x.night();
        check.due("high already", x.chance(1, 6, 10), 1000000);
        check.due("by one of three", x.chance(0, 3, 9), 271000);
        x.pull(1, 20);
        check.due("no crowns", x.chance(1, 6, 0), 0);
    }

    private static int due(int lose, int speaks, int silent, int pair) {
        int[] first = {0, silent, speaks, -lose};
        int[] other = {0, speaks, silent, -lose};
        return first[pair] >= first[pair ^ 2] && other[pair] >= other[pair ^ 1] ? 1 : 0;
    }

    private static void rests(Check check) {
        MurmurSheds x = new MurmurSheds();
        check.due("all", x.rests(0, 0, 0, -1), 4);
        for (int i = 0; i < 4; i++) {
            check.due("all", x.rests(0, 0, 0, i), i);
        }
        check.due("one speaks", x.rests(2, 5, 1, -1), 2);
        check.due("one speaks", x.rests(2, 5, 1, 0), 1);
        check.due("one speaks", x.rests(2, 5, 1, 1), 2);
        check.none("rests(2, 5, 1, 2)", () -> x.rests(2, 5, 1, 2));
        check.due("not both", x.rests(3, 0, 0, -1), 3);
        check.due("not both", x.rests(3, 0, 0, 2), 2);
        check.none("rests(0, 0, 0, 4)", () -> x.rests(0, 0, 0, 4));
        check.none("rests(0, 0, 0, -2)", () -> x.rests(0, 0, 0, -2));
        check.none("rests(10, 0, 0, -1)", () -> x.rests(10, 0, 0, -1));
        check.none("rests(0, 10, 0, -1)", () -> x.rests(0, 10, 0, -1));
        check.none("rests(0, 0, 10, -1)", () -> x.rests(0, 0, 10, -1));
        check.none("rests(-1, 0, 0, 0)", () -> x.rests(-1, 0, 0, 0));
        check.none("rests(0, -1, 0, 0)", () -> x.rests(0, -1, 0, 0));
        check.none("rests(0, 0, -1, 0)", () -> x.rests(0, 0, -1, 0));
    }

    private static void restsOfAll(Check check) {
        MurmurSheds x = new MurmurSheds();
        for (int all = 0; all < 1000; all++) {
            int lose = all / 100;
            int speaks = all / 10 % 10;
            int silent = all % 10;
            List<Integer> due = new ArrayList<>();
            for (int pair = 0; pair < 4; pair++) {
                if (due(lose, speaks, silent, pair) == 1) {
                    due.add(pair);
                }
            }
            check.due("rests of " + all, x.rests(lose, speaks, silent, -1), due.size());
            for (int i = 0; i < due.size(); i++) {
                check.due("rests of " + all, x.rests(lose, speaks, silent, i), due.get(i));
            }
            check.none("rests of " + all, () -> x.rests(lose, speaks, silent, due.size()));
        }
    }

    private static void weeks(Check check) {
        MurmurSheds x = check.of("shed a plain heat 3 crowns 5;shed b early heat 2 crowns 9;shed c shy heat 6 crowns 4;"
            + "shed d wild heat 4 crowns 3;near a b;near b c;near c d;roof 25;frost 0 2 5;");
        int[][] due = {{0, 1, 0, 21, 6}, {0, 99, 4, 1, 2}, {1, 20, 4, 19, 46}, {9999, 99, 4, 6, 14},
            {1234, 40, 4, 8, 19}, {77, 99, 4, 9, 21}};
        for (int[] one : due) {
            for (int what = 0; what < 3; what++) {
                check.due("weeks(" + one[0] + ", " + one[1] + ", " + what + ")", x.weeks(one[0], one[1], what), one[2 + what]);
            }
        }
        check.due("all is as ahead", x.count(2) + x.count(10) + x.count(6) + x.shed(0, 3), 0);
        check.due("crowns", x.count(5), 21);
        // Seed 0 does nothing in its first night but let it go by: frost 2 at night 4.
        check.nights(x, 4);
        int together = x.yields(1);
        check.due("from now on", x.weeks(0, 1, 2), together);
    }

    private static void moreWeeks(Check check) {
        MurmurSheds x = check.of("shed a plain heat 1 crowns 20;shed b shy heat 3 crowns 20;shed c early heat 1 crowns 20;"
            + "near a b;near b c;roof 60;frost 1 0;");
        int[][] due = {{3, 10, 2, 55, 65}, {8, 20, 3, 50, 250}, {15, 12, 3, 55, 160}, {100, 30, 3, 48, 258},
            {2024, 25, 3, 60, 338}, {555, 18, 3, 53, 250}, {9998, 16, 3, 55, 288}};
        for (int[] one : due) {
            for (int what = 0; what < 3; what++) {
                check.due("weeks(" + one[0] + ", " + one[1] + ", " + what + ")", x.weeks(one[0], one[1], what), one[2 + what]);
            }
        }
    }

    private static void weeksWrong(Check check) {
        MurmurSheds x = check.of("shed a plain heat 9 crowns 4;");
        check.due("weeks(5, 99, 0)", x.weeks(5, 99, 0), 1);
        check.due("weeks(5, 99, 1)", x.weeks(5, 99, 1), 0);
        check.due("weeks(-1, 1, 0)", x.weeks(-1, 1, 0), -1);
        check.due("weeks(10000, 1, 0)", x.weeks(10000, 1, 0), -1);
        check.due("weeks(0, 0, 0)", x.weeks(0, 0, 0), -1);
        check.due("weeks(0, 100, 0)", x.weeks(0, 100, 0), -1);
        check.due("weeks(0, 1, 3)", x.weeks(0, 1, 3), -1);
        check.due("weeks(0, 1, -1)", x.weeks(0, 1, -1), -1);
        MurmurSheds none = new MurmurSheds();
        for (int what = 0; what < 3; what++) {
            check.due("no sheds", none.weeks(0, 99, what), 0);
        }
    }
}
