import java.util.NoSuchElementException;

/** Numbers far outside what is told: each call answers as to others, and none throws but rests. */
public final class WildTest {
    private static final int[] WILD = {Integer.MIN_VALUE, Integer.MIN_VALUE + 1, -33, -32, -7, 6, 32, 64, 99999,
        Integer.MAX_VALUE - 1, Integer.MAX_VALUE};

    public static void main(String[] args) {
        Check check = new Check();
        MurmurSheds full = check.of("shed a plain heat 9 crowns 20;shed b wild heat 9 crowns 1;near a b;stage s wants 0 to 99;");
        check.nights(full, 3);
        MurmurSheds[] all = {new MurmurSheds(), full};
        for (MurmurSheds x : all) {
            for (int wild : WILD) {
                places(check, x, wild);
                amounts(check, x, wild);
                rests(check, x, wild);
            }
        }
        feeds(check);
        check.due("nothing is done", full.count(10), 3);
        check.end();
    }

    private static void places(Check check, MurmurSheds x, int wild) {
        check.due("shed", x.shed(wild, 0), -2);
        check.due("shed", x.shed(0, wild == 6 ? 7 : wild), -2);
        check.due("stage", x.stage(wild, 0), -1);
        check.due("stage", x.stage(0, wild), -1);
        check.due("heat", x.heat(wild, 1), -1);
        check.due("light", x.light(wild), false);
        check.due("pull", x.pull(wild, 1), -1);
        check.due("judged", x.judged(wild), -2);
        check.due("later", x.later(wild, 1), -1);
        check.due("creak", x.creak(wild, 1), -1);
        check.due("pops", x.pops(wild), -1);
        check.due("riot", x.riot(wild), -1);
        check.due("calm", x.calm(wild), -1);
        check.due("had", x.had(wild), -1);
        check.due("waits", x.waits(wild), -1);
        check.due("plays", x.plays(wild), -2);
        check.due("blend", x.blend(wild), -1);
        check.due("aim", x.aim(wild, 1, 0), -1);
        check.due("reach", x.reach(wild), -1);
        check.due("far", x.far(wild, 0), -1);
        check.due("far", x.far(0, wild), -1);
        check.due("far", x.far(wild, wild), -1);
        check.due("heard", x.heard(wild), -1);
        check.due("chance", x.chance(wild, 1, 1), -1);
        check.due("mark", x.mark(wild, false), false);
        check.due("mark", x.mark(wild, true), false);
        check.due("count", wild == 6 ? -1 : x.count(wild), -1);
    }

    private static void amounts(Check check, MurmurSheds x, int wild) {
        int far = wild == 6 || wild == 32 ? 401 : wild == 64 ? 500 : wild;
        check.due("heat", x.heat(0, far), -1);
        check.due("pull", x.pull(0, far), -1);
        check.due("later", x.later(0, far), -1);
        check.due("creak", x.creak(0, far), -1);
        check.due("aim", x.aim(0, far, 0), -1);
        check.due("aim", x.aim(0, 1, far), -1);
        check.due("yields", x.yields(far), -1);
        check.due("see", x.see(far, 1, true), false);
        check.due("see", x.see(1, far, false), false);
        check.due("chance", x.chance(0, far, 1), -1);
        check.due("chance", x.chance(0, 1, far), -1);
        check.due("weeks", x.weeks(far < 0 ? far : 10000 + far / 2, 1, 0), -1);
        check.due("weeks", x.weeks(1, far, 0), -1);
        check.due("weeks", x.weeks(1, 1, far), -1);
    }

    private static void rests(Check check, MurmurSheds x, int wild) {
        int far = wild == 6 ? 10 : wild;
        int[][] all = {{far, 0, 0, -1}, {0, far, 0, -1}, {0, 0, far, -1}, {0, 0, 0, far}};
        for (int[] one : all) {
            check.none("rests", () -> x.rests(one[0], one[1], one[2], one[3]));
        }
        try {
            check.due("rests", x.rests(9, 9, 9, -1), 2);
        } catch (NoSuchElementException e) {
            check.due("rests threw", 1, 0);
        }
    }

    private static void feeds(Check check) {
        MurmurSheds x = new MurmurSheds();
        check.due("feed", x.feed(Long.MIN_VALUE, Long.MAX_VALUE, -1), 0);
        check.due("yard", x.yard(), 0);
        for (long sign = 0; sign < 256; sign++) {
            boolean held = sign == 10 || sign >= 32 && sign <= 126;
            check.due("feed of " + sign, x.feed(sign << 56, 0, 0), held ? 1 : 0);
            boolean blank = sign == 10 || sign == 32;
            check.due("yard of " + sign, x.yard(), held && !blank ? 1 : 0);
            x.feed(0, sign << 32, 0);
            check.due("week of " + sign, x.week(), held && !blank ? 1 : 0);
        }
    }
}
