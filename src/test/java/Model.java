import java.util.ArrayList;
import java.util.Arrays;
import java.util.List;
import java.util.regex.Matcher;
import java.util.regex.Pattern;

/** The document once more, written the other way: texts cut by a pattern, states made anew, all by trying. */
final class Model {
    /** A fault that ends the reading. */
    private static final class Fault extends RuntimeException {
        private static final long serialVersionUID = 1;
        final int told;

        Fault(int kind, int place) {
            super(null, null, false, false);
            told = kind + 16 * place;
        }
    }

    private interface Sum {
        int of(int warm, int tall, int many, int date);
    }

    static final class State implements Cloneable {
        int[] high;
        int[] heat;
        int[] crowns;
        int[] heard;
        boolean[] lit;
        int[] creaked;
        int night;

        State copy() {
            State s = new State();
            s.high = high.clone();
            s.heat = heat.clone();
            s.crowns = crowns.clone();
            s.heard = heard.clone();
            s.lit = lit.clone();
            s.creaked = creaked.clone();
            s.night = night;
            return s;
        }

        int murmur(int i) {
            return Math.min(999, high[i] * crowns[i] / 10);
        }
    }

    private static final List<String> KINDS = List.of("plain", "early", "shy", "wild");
    private static final List<String> TAKEN = List.of("shed", "heat", "crowns", "near", "stage", "wants", "to", "frost",
        "roof", "grows", "night", "light", "pull", "plain", "early", "shy", "wild", "not", "and", "or");

    // What was told.
    List<String> sheds = new ArrayList<>();
    List<int[]> told = new ArrayList<>();
    List<String> stages = new ArrayList<>();
    List<int[]> wants = new ArrayList<>();
    boolean[][] near = new boolean[6][6];
    List<Integer> frosts = new ArrayList<>();
    Integer roof;
    Sum law;
    List<int[]> lines = new ArrayList<>();
    State now = start();

    // What is being read.
    private List<String> texts;
    private List<Integer> places;
    private int at;

    // ---- reading

    private void cut(String text) {
        texts = new ArrayList<>();
        places = new ArrayList<>();
        Matcher m = Pattern.compile("[a-z]+|[0-9]+|[^ \n]").matcher(text);
        while (m.find()) {
            texts.add(m.group());
            places.add(m.start());
        }
        texts.add("");
        places.add(text.length());
        at = 0;
    }

    private String here() {
        return texts.get(at);
    }

    private Fault wrong(int kind) {
        return new Fault(kind, places.get(at));
    }

    private void need(String text) {
        if (!here().equals(text)) {
            throw wrong(1);
        }
        at++;
    }

    private boolean isNumber() {
        return here().matches("[0-9]{1,4}");
    }

    private int number(int least, int most, boolean tooMany) {
        if (!isNumber()) {
            throw wrong(1);
        }
        int n = Integer.parseInt(here());
        if (n < least || n > most) {
            throw wrong(4);
        }
        if (tooMany) {
            throw wrong(5);
        }
        at++;
        return n;
    }

    private String name() {
        if (!here().matches("[a-z]{1,8}") || TAKEN.contains(here())) {
            throw wrong(1);
        }
        return here();
    }

    private String fresh() {
        String name = name();
        if (sheds.contains(name) || stages.contains(name)) {
            throw wrong(3);
        }
        at++;
        return name;
    }

    private int known(List<String> names) {
        int i = names.indexOf(name());
        if (i < 0) {
            throw wrong(2);
        }
        return i;
    }

    /** A new model if there is no fault; its fault else. */
    static Object yard(String text) {
        Model m = new Model();
        m.cut(text);
        try {
            while (!m.here().isEmpty()) {
                m.line();
                m.need(";");
            }
        } catch (Fault f) {
            return f.told;
        }
        m.now = m.start();
        return m;
    }

    private void line() {
        switch (here()) {
            case "shed":
                if (sheds.size() == 6) {
                    throw wrong(5);
                }
                at++;
                String name = fresh();
                int kind = KINDS.indexOf(here());
                if (kind < 0) {
                    throw wrong(1);
                }
                at++;
                need("heat");
                int heat = number(0, 9, false);
                need("crowns");
                told.add(new int[] {kind, heat, number(1, 20, false)});
                sheds.add(name);
                break;
            case "near":
                at++;
                int a = known(sheds);
                at++;
                int b = known(sheds);
                if (a == b || near[a][b]) {
                    throw wrong(3);
                }
                near[a][b] = true;
                near[b][a] = true;
                at++;
                break;
            case "stage":
                if (stages.size() == 5) {
                    throw wrong(5);
                }
                at++;
                String stage = fresh();
                need("wants");
                int low = number(0, 60, false);
                need("to");
                wants.add(new int[] {low, number(low, 99, false)});
                stages.add(stage);
                break;
            case "frost":
                if (!frosts.isEmpty()) {
                    throw wrong(3);
                }
                at++;
                do {
                    frosts.add(number(0, 9, frosts.size() == 12));
                } while (isNumber());
                break;
            case "roof":
                if (roof != null) {
                    throw wrong(3);
                }
                at++;
                roof = number(5, 60, false);
                break;
            case "grows":
                if (law != null) {
                    throw wrong(3);
                }
                at++;
                law = all(0);
                break;
            default:
                throw wrong(1);
        }
    }

    private Sum all(int depth) {
        Sum left = test(depth);
        while (here().equals("and") || here().equals("or")) {
            boolean and = here().equals("and");
            at++;
            Sum a = left;
            Sum b = test(depth);
            left = (w, t, m, d) -> {
                boolean x = a.of(w, t, m, d) != 0;
                boolean y = b.of(w, t, m, d) != 0;
                return (and ? x && y : x || y) ? 1 : 0;
            };
        }
        return left;
    }

    private Sum test(int depth) {
        Sum a = sum(depth);
        if (!here().equals("<") && !here().equals("=")) {
            return a;
        }
        boolean less = here().equals("<");
        at++;
        Sum b = sum(depth);
        return (w, t, m, d) -> {
            int x = a.of(w, t, m, d);
            int y = b.of(w, t, m, d);
            return (less ? x < y : x == y) ? 1 : 0;
        };
    }

    private Sum sum(int depth) {
        Sum left = product(depth);
        while (here().equals("+") || here().equals("-")) {
            int sign = here().equals("+") ? 1 : -1;
            at++;
            Sum a = left;
            Sum b = product(depth);
            left = (w, t, m, d) -> a.of(w, t, m, d) + sign * b.of(w, t, m, d);
        }
        return left;
    }

    private Sum product(int depth) {
        Sum left = part(depth);
        while (here().equals("*")) {
            at++;
            Sum a = left;
            Sum b = part(depth);
            left = (w, t, m, d) -> a.of(w, t, m, d) * b.of(w, t, m, d);
        }
        return left;
    }

    private Sum part(int depth) {
        boolean starts = isNumber() || List.of("not", "(", "warm", "tall", "many", "date").contains(here());
        if (!starts) {
            throw wrong(1);
        }
        if (depth == 5) {
            throw wrong(5);
        }
        String first = here();
        at++;
        switch (first) {
            case "not":
                Sum other = part(depth + 1);
                return (w, t, m, d) -> other.of(w, t, m, d) == 0 ? 1 : 0;
            case "(":
                Sum inner = all(depth + 1);
                need(")");
                return inner;
            case "warm":
                return (w, t, m, d) -> w;
            case "tall":
                return (w, t, m, d) -> t;
            case "many":
                return (w, t, m, d) -> m;
            case "date":
                return (w, t, m, d) -> d;
            default:
                int n = Integer.parseInt(first);
                return (w, t, m, d) -> n;
        }
    }

    int week(String text) {
        cut(text);
        List<int[]> read = new ArrayList<>();
        try {
            while (!here().isEmpty()) {
                int deed = List.of("night", "heat", "light", "pull").indexOf(here());
                if (deed < 0) {
                    throw wrong(1);
                }
                if (read.size() == 40) {
                    throw wrong(5);
                }
                at++;
                int[] line = {deed, 0, 0};
                if (deed > 0) {
                    line[1] = known(sheds);
                    at++;
                }
                if (deed % 2 == 1) {
                    line[2] = deed == 1 ? number(0, 9, false) : number(1, 20, false);
                }
                need(";");
                read.add(line);
            }
        } catch (Fault f) {
            return f.told;
        }
        lines = read;
        return 0;
    }

    // ---- what is done

    State start() {
        State s = new State();
        int n = sheds.size();
        s.high = new int[n];
        s.heat = new int[n];
        s.crowns = new int[n];
        s.heard = new int[n];
        s.lit = new boolean[n];
        s.creaked = new int[n];
        for (int i = 0; i < n; i++) {
            s.heat[i] = told.get(i)[1];
            s.crowns[i] = told.get(i)[2];
            s.heard[i] = 1 << i;
        }
        return s;
    }

    int roof() {
        return roof == null ? 30 : roof;
    }

    int frost(int night) {
        return frosts.isEmpty() ? 0 : frosts.get(night % frosts.size());
    }

    /** The state behind a night with this frost. */
    State night(State s, int frost) {
        State t = s.copy();
        int n = sheds.size();
        for (int i = 0; i < n; i++) {
            int grown = 0;
            if (!s.lit[i] && s.crowns[i] > 0) {
                int warm = Math.max(s.heat[i] - frost, 0);
                grown = law == null ? warm : law.of(warm, s.high[i], s.crowns[i], s.night);
                grown = grown < 0 ? 0 : grown > 9 ? 9 : grown;
                boolean light = false;
                int more = 0;
                for (int j = 0; j < n; j++) {
                    light |= near[i][j] && s.lit[j];
                    more += near[i][j] && s.crowns[j] > s.crowns[i] ? 1 : 0;
                }
                String kind = KINDS.get(told.get(i)[0]);
                if (kind.equals("early") && s.high[i] < 10) {
                    grown += 1;
                }
                if (kind.equals("shy") && light) {
                    grown = grown / 2;
                }
                if (kind.equals("wild")) {
                    grown += more;
                }
            }
            t.high[i] = Math.min(roof(), s.high[i] + grown);
            t.creaked[i] = (t.high[i] - s.high[i]) * s.crowns[i];
            t.lit[i] = false;
        }
        for (int i = 0; i < n; i++) {
            for (int j = 0; j < n; j++) {
                if (near[i][j] && t.creaked[j] > 0) {
                    t.heard[i] |= s.heard[j];
                }
            }
        }
        t.night++;
        return t;
    }

    State night(State s) {
        return night(s, frost(s.night));
    }

    State nights(State s, int many) {
        State t = s;
        for (int n = 0; n < many; n++) {
            t = night(t);
        }
        return t;
    }

    static int popped(State ahead, State then) {
        int set = 0;
        for (int i = 0; i < then.high.length; i++) {
            if (ahead.high[i] < 10 && then.high[i] >= 10) {
                set += 1 << i;
            }
        }
        return set;
    }

    static boolean canPull(State s, int shed, int crowns) {
        return s.crowns[shed] >= crowns && s.high[shed] >= 10;
    }

    static void pull(State s, int shed, int crowns) {
        s.crowns[shed] -= crowns;
        if (s.crowns[shed] == 0) {
            s.high[shed] = 0;
        }
    }

    int[] judged() {
        int[] answer = {-1, -1, 0};
        State s = start();
        for (int i = 0; i < lines.size(); i++) {
            int[] line = lines.get(i);
            boolean can = true;
            if (line[0] == 0) {
                State t = night(s);
                if (popped(s, t) != 0 && answer[1] == -1) {
                    answer[1] = i;
                }
                s = t;
            } else if (line[0] == 1) {
                s.heat[line[1]] = line[2];
            } else if (line[0] == 2) {
                can = !s.lit[line[1]];
                s.lit[line[1]] = true;
            } else {
                can = canPull(s, line[1], line[2]);
                if (can) {
                    pull(s, line[1], line[2]);
                }
            }
            if (!can && answer[0] == -1) {
                answer[0] = i;
            }
        }
        answer[2] = Arrays.stream(s.crowns).sum();
        return answer;
    }

    // ---- what is asked

    private interface Test {
        boolean so(State s);
    }

    /** Behind how many nights it is so. */
    int when(Test test) {
        State s = now;
        for (int n = 0; n <= 60; n++) {
            if (test.so(s)) {
                return n;
            }
            s = night(s);
        }
        return -1;
    }

    int pops(int mask) {
        State s = now;
        for (int n = 1; n <= 60; n++) {
            State t = night(s);
            if ((popped(s, t) & mask) != 0) {
                return n;
            }
            s = t;
        }
        return -1;
    }

    int first() {
        int best = -1;
        for (int i = sheds.size() - 1; i >= 0; i--) {
            int n = pops(1 << i);
            if (n != -1 && (best == -1 || n <= pops(1 << best))) {
                best = i;
            }
        }
        return best;
    }

    int riot(int shed) {
        return when(s -> s.murmur(shed) >= 60);
    }

    int calm(int shed) {
        int less = 0;
        while (now.high[shed] * (now.crowns[shed] - less) / 10 >= 60) {
            less++;
        }
        return less;
    }

    int roofed() {
        return when(s -> {
            for (int i = 0; i < s.high.length; i++) {
                if (s.crowns[i] > 0 && s.high[i] != roof()) {
                    return false;
                }
            }
            return true;
        });
    }

    boolean can(int stage, int murmur) {
        return wants.get(stage)[0] <= murmur && murmur <= wants.get(stage)[1];
    }

    int had(State s, int stage) {
        int set = 0;
        for (int i = 0; i < sheds.size(); i++) {
            set += can(stage, s.murmur(i)) ? 1 << i : 0;
        }
        return set;
    }

    int waits(int stage) {
        return when(s -> had(s, stage) != 0);
    }

    /** All rows by counting, none as the last one: how many, then the row. */
    int[] plays() {
        int n = sheds.size() + 1;
        int m = stages.size();
        int[] best = new int[m + 1];
        best[0] = -1;
        for (int all = 0; all < Math.pow(n, m); all++) {
            int[] row = new int[m + 1];
            int used = 0;
            boolean fits = true;
            for (int i = m, rest = all; i >= 1; i--, rest /= n) {
                int shed = rest % n;
                row[i] = shed == n - 1 ? -1 : shed;
                if (shed != n - 1) {
                    fits &= (used >> shed & 1) == 0 && can(i - 1, now.murmur(shed));
                    used |= 1 << shed;
                    row[0]++;
                }
            }
            if (fits && row[0] > best[0]) {
                best = row;
            }
        }
        return best;
    }

    int blend(int stage) {
        int best = -1;
        for (int set = (1 << sheds.size()) - 1; set > 0; set--) {
            int sum = 0;
            boolean fits = true;
            for (int i = 0; i < sheds.size(); i++) {
                if ((set >> i & 1) == 1) {
                    fits &= now.crowns[i] > 0;
                    sum += now.murmur(i);
                }
            }
            if (fits && can(stage, sum) && (best == -1 || Integer.bitCount(set) <= Integer.bitCount(best))) {
                best = set;
            }
        }
        return best;
    }

    int[] aim(int stage, int nights) {
        int[] best = {-1, -1};
        for (int heat = 9; heat >= 0; heat--) {
            for (int i = sheds.size() - 1; i >= 0; i--) {
                State s = now.copy();
                s.heat[i] = heat;
                if (can(stage, nights(s, nights).murmur(i))) {
                    best = new int[] {heat, i};
                }
            }
        }
        return best;
    }

    /** Steps from each to each, 99 if never. */
    int[][] steps() {
        int n = sheds.size();
        int[][] far = new int[n][n];
        for (int i = 0; i < n; i++) {
            for (int j = 0; j < n; j++) {
                far[i][j] = i == j ? 0 : near[i][j] ? 1 : 99;
            }
        }
        for (int k = 0; k < n; k++) {
            for (int i = 0; i < n; i++) {
                for (int j = 0; j < n; j++) {
                    far[i][j] = Math.min(far[i][j], far[i][k] + far[k][j]);
                }
            }
        }
        return far;
    }

    int far(int shed, int other) {
        int steps = steps()[shed][other];
        return steps > 90 ? -1 : steps;
    }

    int reach(int shed) {
        int set = 0;
        for (int i = 0; i < sheds.size(); i++) {
            set += far(shed, i) >= 0 ? 1 << i : 0;
        }
        return set;
    }

    int parts() {
        return (int) java.util.stream.IntStream.range(0, sheds.size()).map(this::reach).distinct().count();
    }

    int news() {
        return when(s -> {
            for (int i = 0; i < s.heard.length; i++) {
                if (s.heard[i] != reach(i)) {
                    return false;
                }
            }
            return true;
        });
    }

    int loud() {
        int best = -1;
        for (int i = sheds.size() - 1; i >= 0; i--) {
            best = best == -1 || now.murmur(i) >= now.murmur(best) ? i : best;
        }
        return best;
    }

    int tall() {
        int best = -1;
        for (int i = sheds.size() - 1; i >= 0; i--) {
            best = best == -1 || now.high[i] >= now.high[best] ? i : best;
        }
        return best;
    }

    int murmurs(State s) {
        int sum = 0;
        for (int i = 0; i < s.high.length; i++) {
            sum += s.murmur(i);
        }
        return sum;
    }

    int who(List<int[]> seen) {
        int set = 0;
        for (int i = 0; i < sheds.size(); i++) {
            boolean so = true;
            for (int[] one : seen) {
                int creak = nights(now, one[0]).creaked[i];
                so &= one[2] == 1 ? creak >= one[1] : creak < one[1];
            }
            set += so ? 1 << i : 0;
        }
        return set;
    }

    int ask(List<int[]> seen) {
        int set = who(seen);
        int best = Integer.bitCount(set);
        int answer = -1;
        State s = now;
        for (int n = 1; n <= 20; n++) {
            s = night(s);
            for (int much = 1; much <= 400; much++) {
                int so = 0;
                int not = 0;
                for (int i = 0; i < sheds.size(); i++) {
                    if ((set >> i & 1) == 1) {
                        so += s.creaked[i] >= much ? 1 : 0;
                        not += s.creaked[i] < much ? 1 : 0;
                    }
                }
                if (Math.max(so, not) < best) {
                    best = Math.max(so, not);
                    answer = 1000 * n + much;
                }
            }
        }
        return answer;
    }

    /** A row wins if some pull of it leaves one that does not; a row weighs by its rests of four. */
    int stick() {
        for (int i = 0; i < sheds.size(); i++) {
            for (int k = 1; k <= 3 && k <= now.crowns[i]; k++) {
                int weight = 0;
                for (int j = 0; j < sheds.size(); j++) {
                    weight ^= (now.crowns[j] - (i == j ? k : 0)) % 4;
                }
                if (weight == 0) {
                    return 4 * i + k;
                }
            }
        }
        return -1;
    }

    int chance(int shed, int nights, int odds) {
        long all = 1;
        for (int n = 0; n < nights; n++) {
            all *= 10;
        }
        return (int) (atRoof(now, shed, nights, odds) * 1000000L / all);
    }

    private long atRoof(State s, int shed, int nights, int odds) {
        if (nights == 0) {
            return s.high[shed] == roof() ? 1 : 0;
        }
        return odds * atRoof(night(s, 9), shed, nights - 1, odds)
            + (10 - odds) * atRoof(night(s, 0), shed, nights - 1, odds);
    }

    int[] weeks(int seed, int nights) {
        long[] g = {seed};
        int popped = 0;
        State s = now.copy();
        int n = sheds.size();
        for (int i = 0; i < nights; i++) {
            if (n > 0) {
                int shed = draw(g, n);
                int deed = draw(g, 5);
                if (deed == 0) {
                    s.lit[shed] = true;
                } else if (deed == 1) {
                    s.heat[shed] = draw(g, 10);
                } else if (deed == 2) {
                    int crowns = draw(g, 5) + 1;
                    if (canPull(s, shed, crowns)) {
                        pull(s, shed, crowns);
                    }
                }
            }
            State t = night(s);
            popped += Integer.bitCount(popped(s, t));
            s = t;
        }
        return new int[] {popped, Arrays.stream(s.crowns).sum(), murmurs(s)};
    }

    private static int draw(long[] g, int below) {
        g[0] = Math.floorMod(g[0] * 1103515245 + 12345, 1L << 31);
        return (int) ((g[0] >> 16) % below);
    }
}
