import java.util.ArrayList;
import java.util.List;
import java.util.Random;

/** Random runs of calls, by fixed seeds, compared with the model. */
public final class ModelTest {
    private static final String[] KINDS = {"plain", "early", "shy", "wild"};
    private static final String[] FACTS = {"warm", "tall", "many", "date", "3", "1", "0", "15"};
    private static final String[] JOINERS = {"+", "-", "*", "<", "=", " and ", " or "};

    private final Check check = new Check();
    private final Random random;
    private MurmurSheds x = new MurmurSheds();
    private Model m = new Model();
    private final List<Model.State> past = new ArrayList<>();
    private List<int[]> seen = new ArrayList<>();
    private final Object[][] marks = new Object[4][];
    private int calls;

    private ModelTest(long seed) {
        random = new Random(seed);
    }

    public static void main(String[] args) {
        Check all = new Check();
        int runs = args.length > 0 ? Integer.parseInt(args[0]) : 300;
        for (int seed = 0; seed < runs; seed++) {
            ModelTest test = new ModelTest(seed);
            test.run(seed);
            all.due("wrong answers of seed " + seed, test.check.wrong(), 0);
        }
        all.end();
    }

    private int below(int n) {
        return random.nextInt(n);
    }

    private void run(int seed) {
        calls = 0;
        tellYard(seed % 4 == 0 ? 3 : 0);
        while (calls < 480) {
            int what = below(60);
            if (what == 0 && seed % 3 == 0) {
                tellYard(below(3));
            } else if (what < 3) {
                tellWeek(below(3));
            } else if (what < 20) {
                act();
            } else {
                ask();
            }
        }
        counts();
    }

    // ---- telling

    private String law(int depth) {
        StringBuilder text = new StringBuilder(part(depth));
        for (int n = below(4); n > 0; n--) {
            text.append(JOINERS[below(JOINERS.length)]).append(part(depth));
        }
        return text.toString();
    }

    private String part(int depth) {
        int what = below(6);
        if (what == 0 && depth < 5) {
            return "not " + part(depth + 1);
        }
        return what == 1 && depth < 5 ? "(" + law(depth + 1) + ")" : FACTS[below(FACTS.length)];
    }

    private String yardText() {
        List<String> lines = new ArrayList<>();
        int sheds = below(8) == 0 ? below(8) : 2 + below(5);
        for (int i = 0; i < sheds; i++) {
            lines.add("shed s" + (char) ('a' + i) + " " + KINDS[below(4)] + " heat " + below(10) + " crowns "
                + (1 + below(20)) + ";");
        }
        for (int i = below(sheds + 4); i > 0 && sheds > 1; i--) {
            int a = below(sheds);
            int b = below(sheds);
            String line = "near s" + (char) ('a' + a) + " s" + (char) ('a' + b) + ";";
            String turned = "near s" + (char) ('a' + b) + " s" + (char) ('a' + a) + ";";
            if (a != b && !lines.contains(line) && !lines.contains(turned)) {
                lines.add(line);
            }
        }
        for (int i = below(6); i > 0; i--) {
            int low = below(3) == 0 ? below(61) : below(12);
            lines.add(below(lines.size() + 1), "stage t" + (char) ('a' + i) + " wants " + low + " to "
                + Math.min(99, low + below(20)) + ";");
        }
        if (below(3) > 0) {
            StringBuilder frost = new StringBuilder("frost");
            for (int n = 1 + below(6); n > 0; n--) {
                frost.append(' ').append(below(2) * below(10));
            }
            lines.add(frost + ";");
        }
        if (below(3) > 0) {
            lines.add(0, "roof " + (below(4) == 0 ? 5 + below(6) : 10 + below(51)) + ";");
        }
        if (below(3) == 0) {
            lines.add("grows " + law(0) + ";");
        } else if (below(3) == 0) {
            lines.add("grows warm+" + law(2) + ";");
        }
        return String.join(below(2) == 0 ? "" : "\n", lines);
    }

    /** The text with some signs, or tokens, changed. */
    private String spoil(String text) {
        String[] put = {"", " ", ";", "7", "a", "shed", "not ", "(", ")", "sa", "ta", "60", "12345", "abcdefghi", "#",
            "< 1", "roof 9;", "frost 0 1 1 1 1 1 1 1 1 1 1 1 1 1;", "near sa sb;", "((((( 1", "grows not ", "heat"};
        int from = below(text.length() + 1);
        int to = Math.min(text.length(), from + below(4));
        return text.substring(0, from) + put[below(put.length)] + text.substring(to);
    }

    private String told(String text, int spoilt) {
        String told = text;
        for (int n = 0; n < spoilt; n++) {
            told = spoil(told);
        }
        told = told.length() > 1000 ? told.substring(0, 1000) : told;
        calls += (told.length() + 23) / 24;
        return told;
    }

    private void tellYard(int spoilt) {
        String text = told(yardText(), spoilt);
        Object due = Model.yard(text);
        calls++;
        check.due("yard " + text, Check.yard(x, text), due instanceof Integer ? (Integer) due : 0);
        if (due instanceof Model) {
            m = (Model) due;
            past.clear();
            seen = new ArrayList<>();
            java.util.Arrays.fill(marks, null);
        }
    }

    private void tellWeek(int spoilt) {
        StringBuilder text = new StringBuilder();
        for (int n = below(3) == 0 ? 30 + below(14) : below(14); n > 0; n--) {
            String shed = " s" + (char) ('a' + below(Math.max(1, m.sheds.size())));
            int deed = below(6);
            text.append(deed == 0 ? "heat" + shed + " " + below(10) : deed == 1 ? "light" + shed
                : deed == 2 ? "pull" + shed + " " + (1 + below(6)) : "night").append(';');
        }
        String told = told(text.toString(), spoilt);
        calls++;
        check.due("week " + told, Check.week(x, told), m.week(told));
        for (int what = 0; what < 3; what++) {
            check.due("judged(" + what + ")", x.judged(what), m.judged()[what]);
        }
        calls += 3;
    }

    // ---- doing

    private int someShed() {
        return below(9) == 0 ? below(12) - 3 : below(Math.max(1, m.sheds.size()));
    }

    private boolean isShed(int shed) {
        return shed >= 0 && shed < m.sheds.size();
    }

    private void remember() {
        past.add(m.now);
        m.now = m.now.copy();
        if (past.size() > 16) {
            past.remove(0);
        }
    }

    private void act() {
        calls++;
        int shed = someShed();
        switch (below(9)) {
            case 0: {
                int heat = below(12) - 1;
                boolean can = isShed(shed) && heat >= 0 && heat <= 9;
                check.due("heat", x.heat(shed, heat), can ? m.now.heat[shed] : -1);
                if (can) {
                    remember();
                    m.now.heat[shed] = heat;
                }
                break;
            }
            case 1: {
                boolean can = isShed(shed) && !m.now.lit[shed];
                check.due("light", x.light(shed), can);
                if (can) {
                    remember();
                    m.now.lit[shed] = true;
                }
                break;
            }
            case 2: {
                int many = below(4) == 0 ? below(23) - 1 : 1 + below(4);
                boolean can = isShed(shed) && many >= 1 && many <= 20 && Model.canPull(m.now, shed, many);
                check.due("pull", x.pull(shed, many), can ? m.now.crowns[shed] - many : -1);
                if (can) {
                    remember();
                    Model.pull(m.now, shed, many);
                }
                break;
            }
            case 3:
                check.due("undo", x.undo(), !past.isEmpty());
                if (!past.isEmpty()) {
                    m.now = past.remove(past.size() - 1);
                }
                break;
            case 4:
                mark(below(6) - 1, below(2) == 0);
                break;
            case 5:
                see(below(23) - 1, below(3) == 0 ? below(403) - 1 : below(60), below(2) == 0);
                break;
            default:
                Model.State ahead = m.now;
                remember();
                m.now = m.night(ahead);
                check.due("night", x.night(), Model.popped(ahead, m.now));
        }
    }

    private void see(int nights, int much, boolean more) {
        boolean can = nights >= 1 && nights <= 20 && much >= 1 && much <= 400 && seen.size() < 8;
        check.due("see", x.see(nights, much, more), can);
        if (can) {
            seen.add(new int[] {nights, much, more ? 1 : 0});
        }
    }

    private void mark(int mark, boolean back) {
        boolean can = mark >= 0 && mark < 4 && (!back || marks[mark] != null);
        check.due("mark", x.mark(mark, back), can);
        if (can && back) {
            m.now = ((Model.State) marks[mark][0]).copy();
            m.lines = lines(marks[mark][1]);
            seen = lines(marks[mark][2]);
            past.clear();
        } else if (can) {
            marks[mark] = new Object[] {m.now.copy(), new ArrayList<>(m.lines), new ArrayList<>(seen)};
        }
    }

    private static List<int[]> lines(Object held) {
        List<int[]> list = new ArrayList<>();
        for (Object one : (List<?>) held) {
            list.add((int[]) one);
        }
        return list;
    }

    // ---- asking

    private void ask() {
        calls++;
        int shed = someShed();
        boolean is = isShed(shed);
        int nights = below(8) == 0 ? below(64) - 2 : below(14);
        boolean ahead = nights >= 0 && nights <= 60;
        int stage = below(7) - 1;
        boolean on = stage >= 0 && stage < m.stages.size();
        switch (below(30)) {
            case 0:
                check.due("later", x.later(shed, nights), is && ahead ? m.nights(m.now, nights).high[shed] : -1);
                break;
            case 1:
                check.due("creak", x.creak(shed, nights),
                    is && ahead && nights > 0 ? m.nights(m.now, nights).creaked[shed] : -1);
                break;
            case 2:
                check.due("pops", x.pops(shed), is ? m.pops(1 << shed) : -1);
                break;
            case 3:
                check.due("first", x.first(), m.first());
                break;
            case 4:
                check.due("riot", x.riot(shed), is ? m.riot(shed) : -1);
                break;
            case 5:
                check.due("calm", x.calm(shed), is ? m.calm(shed) : -1);
                break;
            case 6:
                check.due("roofed", x.roofed(), m.roofed());
                break;
            case 7:
                check.due("had", x.had(stage), on ? m.had(m.now, stage) : -1);
                break;
            case 8:
                check.due("waits", x.waits(stage), on ? m.waits(stage) : -1);
                break;
            case 9:
                check.due("plays", x.plays(stage), stage == -1 || on ? m.plays()[stage + 1] : -2);
                break;
            case 10:
                check.due("blend", x.blend(stage), on ? m.blend(stage) : -1);
                break;
            case 11: {
                int n = below(23) - 1;
                int what = below(8) == 0 ? below(5) - 2 : below(2);
                boolean can = on && n >= 1 && n <= 20 && (what == 0 || what == 1);
                check.due("aim", x.aim(stage, n, what), can ? m.aim(stage, n)[what] : -1);
                break;
            }
            case 12:
                check.due("reach", x.reach(shed), is ? m.reach(shed) : -1);
                break;
            case 13: {
                int other = someShed();
                check.due("far", x.far(shed, other), is && isShed(other) ? m.far(shed, other) : -1);
                break;
            }
            case 14:
                check.due("parts", x.parts(), m.parts());
                break;
            case 15:
                check.due("heard", x.heard(shed), is ? m.now.heard[shed] : -1);
                break;
            case 16:
                check.due("news", x.news(), m.news());
                break;
            case 17:
                check.due("loud", x.loud(), m.loud());
                check.due("tall", x.tall(), m.tall());
                calls++;
                break;
            case 18:
                check.due("yields", x.yields(nights), ahead ? m.murmurs(m.nights(m.now, nights)) : -1);
                break;
            case 19:
            case 20:
                check.due("who", x.who(), m.who(seen));
                break;
            case 21:
                check.due("ask", x.ask(), m.ask(seen));
                break;
            case 22:
                check.due("stick", x.stick(), m.stick());
                break;
            case 23: {
                int n = below(10) == 0 ? below(9) - 1 : 1 + below(6);
                int odds = below(13) - 1;
                boolean can = is && n >= 1 && n <= 6 && odds >= 0 && odds <= 10;
                check.due("chance", x.chance(shed, n, odds), can ? m.chance(shed, n, odds) : -1);
                break;
            }
            case 24:
            case 25: {
                int seed = below(10) == 0 ? below(4) * 5000 - 1 : below(10000);
                int n = below(102);
                int what = below(8) == 0 ? below(6) - 2 : below(3);
                boolean can = seed >= 0 && seed <= 9999 && n >= 1 && n <= 99 && what >= 0 && what <= 2;
                check.due("weeks", x.weeks(seed, n, what), can ? m.weeks(seed, n)[what] : -1);
                break;
            }
            case 26:
                check.due("judged", x.judged(stage), stage >= 0 && stage <= 2 ? m.judged()[stage] : -2);
                break;
            default:
                facts(shed, below(8));
        }
    }

    private void facts(int shed, int what) {
        int due = -2;
        if (isShed(shed) && what < 7) {
            int near = 0;
            for (int i = 0; i < m.sheds.size(); i++) {
                near += m.near[shed][i] ? 1 << i : 0;
            }
            due = new int[] {m.told.get(shed)[0], m.now.heat[shed], m.now.crowns[shed], m.now.high[shed],
                m.now.lit[shed] ? 1 : 0, near, m.now.murmur(shed)}[what];
        }
        check.due("shed", x.shed(shed, what), due);
    }

    private void counts() {
        int crowns = 0;
        int lit = 0;
        int riots = 0;
        for (int i = 0; i < m.sheds.size(); i++) {
            crowns += m.now.crowns[i];
            lit += m.now.lit[i] ? 1 << i : 0;
            riots += m.now.murmur(i) >= 60 ? 1 << i : 0;
        }
        int[] due = {m.sheds.size(), m.stages.size(), m.now.night, m.frost(m.now.night), m.roof(), crowns, lit, riots,
            m.lines.size(), seen.size(), past.size(), 0, -1};
        for (int what = 0; what < due.length; what++) {
            check.due("count(" + what + ")", x.count(what), due[what]);
        }
    }
}
