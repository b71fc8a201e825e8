import java.util.NoSuchElementException;

/** Yards of forced rhubarb that is heard growing; ../shared/DOC.md says what every call promises. */
public final class MurmurSheds {
    public static final int NONE = -1;

    private static final int OTHERS = -2;

    private static final int MOST_SIGNS = 1000;
    private static final int MOST_LETTERS = 8;
    private static final int MOST_DIGITS = 4;
    private static final int MOST_SHEDS = 6;
    private static final int MOST_STAGES = 5;
    private static final int MOST_FROSTS = 12;
    private static final int MOST_LINES = 40;
    private static final int MOST_WITHIN = 5;
    private static final int MOST_SEEN = 8;
    private static final int MOST_UNDONE = 16;
    private static final int MARKS = 4;

    private static final int MOST_HEAT = 9;
    private static final int MOST_CROWNS = 20;
    private static final int NIGHTS_AHEAD = 60;
    private static final int NIGHTS_SEEN = 20;
    private static final int MOST_CREAK = 400;
    private static final int MOST_GROWTH = 9;
    private static final int POP_HEIGHT = 10;
    private static final int RIOT = 60;

    private static final int PLAIN = 0;
    private static final int EARLY = 1;
    private static final int SHY = 2;
    private static final int WILD = 3;

    private static final int MISPLACED = 1;
    private static final int UNKNOWN = 2;
    private static final int AGAIN = 3;
    private static final int OUT_OF_RANGE = 4;
    private static final int TOO_MANY = 5;

    private static final Word[] WORDS = Word.values();

    private final Tokens tokens = new Tokens();
    private Yard land = new Yard();
    private Yard spareLand = new Yard();
    private Week plan = new Week();
    private Week sparePlan = new Week();
    private final Standing now = new Standing();
    private final Standing trial = new Standing();
    private final Seen noticed = new Seen();
    private final Mark[] marks = new Mark[MARKS];
    private final Standing[] past = new Standing[MOST_UNDONE];
    private int pastTop;
    private int undoable;
    private final int[] creaksAhead = new int[NIGHTS_SEEN * MOST_SHEDS];
    private final int[] given = new int[MOST_STAGES];
    private final int[] bestGiven = new int[MOST_STAGES];
    private int mostGiven;
    private long drawn;

    public MurmurSheds() {
        for (int i = 0; i < marks.length; i++) {
            marks[i] = new Mark();
        }
        for (int i = 0; i < past.length; i++) {
            past[i] = new Standing();
        }
    }

    // ---- rows, looked at before they are used

    private static int at(int[] row, int i) {
        return i >= 0 && i < row.length ? row[i] : 0;
    }

    private static void put(int[] row, int i, int value) {
        if (i >= 0 && i < row.length) {
            row[i] = value;
        }
    }

    private static long at(long[] row, int i) {
        return i >= 0 && i < row.length ? row[i] : 0;
    }

    private static void put(long[] row, int i, long value) {
        if (i >= 0 && i < row.length) {
            row[i] = value;
        }
    }

    private static void copyRow(int[] from, int[] to) {
        for (int i = 0; i < from.length && i < to.length; i++) {
            to[i] = from[i];
        }
    }

    private static boolean within(int value, int least, int most) {
        return value >= least && value <= most;
    }

    private boolean isShed(int shed) {
        return shed >= 0 && shed < land.sheds;
    }

    private boolean isStage(int stage) {
        return stage >= 0 && stage < land.stages;
    }

    // ---- what is told: the tape, the yard, the week

    public int feed(long a, long b, long c) {
        feedWord(a);
        feedWord(b);
        feedWord(c);
        return tokens.length;
    }

    private void feedWord(long bytes) {
        for (int shift = 56; shift >= 0; shift -= 8) {
            tokens.append((int) (bytes >> shift & 255));
        }
    }

    public int yard() {
        int fault = YardReader.read(tokens, spareLand);
        tokens.empty();
        if (fault == 0) {
            Yard told = spareLand;
            spareLand = land;
            land = told;
            beginYard();
        }
        return fault;
    }

    private void beginYard() {
        now.begin(land);
        plan.clear();
        noticed.clear();
        undoable = 0;
        for (int i = 0; i < MARKS; i++) {
            Mark mark = markAt(i);
            if (mark != null) {
                mark.laid = false;
            }
        }
    }

    public int week() {
        int fault = WeekReader.read(tokens, sparePlan, land);
        tokens.empty();
        if (fault == 0) {
            Week told = sparePlan;
            sparePlan = plan;
            plan = told;
        }
        return fault;
    }

    // ---- what there is

    public int shed(int shed, int what) {
        if (!isShed(shed)) {
            return OTHERS;
        }
        switch (what) {
            case 0:
                return at(land.kinds, shed);
            case 1:
                return at(now.heats, shed);
            case 2:
                return at(now.crowns, shed);
            case 3:
                return at(now.heights, shed);
            case 4:
                return now.isLit(shed) ? 1 : 0;
            case 5:
                return at(land.near, shed);
            case 6:
                return now.murmur(shed);
            default:
                return OTHERS;
        }
    }

    public int stage(int stage, int what) {
        if (!isStage(stage)) {
            return NONE;
        }
        if (what == 0) {
            return at(land.lows, stage);
        }
        return what == 1 ? at(land.highs, stage) : NONE;
    }

    public int count(int what) {
        switch (what) {
            case 0:
                return land.sheds;
            case 1:
                return land.stages;
            case 2:
                return now.nights;
            case 3:
                return land.frostOf(now.nights);
            case 4:
                return land.roof;
            case 5:
                return now.crownsOfAll();
            case 6:
                return now.lit;
            case 7:
                return riots();
            case 8:
                return plan.size;
            case 9:
                return noticed.size;
            case 10:
                return undoable;
            case 11:
                return tokens.length;
            default:
                return NONE;
        }
    }

    private int riots() {
        int set = 0;
        for (int i = 0; i < land.sheds; i++) {
            if (now.murmur(i) >= RIOT) {
                set |= 1 << i;
            }
        }
        return set;
    }

    // ---- what is done by hand

    public int night() {
        remember();
        return now.pass(land, land.frostOf(now.nights));
    }

    public int heat(int shed, int heat) {
        if (!isShed(shed) || !within(heat, 0, MOST_HEAT)) {
            return NONE;
        }
        int ahead = at(now.heats, shed);
        remember();
        now.heatTo(shed, heat);
        return ahead;
    }

    public boolean light(int shed) {
        if (!isShed(shed) || now.isLit(shed)) {
            return false;
        }
        remember();
        return now.lightUp(shed);
    }

    public int pull(int shed, int crowns) {
        if (!isShed(shed) || !within(crowns, 1, MOST_CROWNS) || !now.canLose(shed, crowns)) {
            return NONE;
        }
        remember();
        now.lose(shed, crowns);
        return at(now.crowns, shed);
    }

    public boolean undo() {
        if (undoable <= 0) {
            return false;
        }
        pastTop = (pastTop + MOST_UNDONE - 1) % MOST_UNDONE;
        undoable--;
        Standing ahead = pastAt(pastTop);
        if (ahead != null) {
            now.copyFrom(ahead);
        }
        return true;
    }

    private void remember() {
        Standing slot = pastAt(pastTop);
        if (slot != null) {
            slot.copyFrom(now);
        }
        pastTop = (pastTop + 1) % MOST_UNDONE;
        undoable = Math.min(undoable + 1, MOST_UNDONE);
    }

    private Standing pastAt(int i) {
        return i >= 0 && i < past.length ? past[i] : null;
    }

    public boolean mark(int mark, boolean back) {
        Mark place = markAt(mark);
        if (place == null || (back && !place.laid)) {
            return false;
        }
        if (back) {
            now.copyFrom(place.standing);
            plan.copyFrom(place.plan);
            noticed.copyFrom(place.noticed);
            undoable = 0;
        } else {
            place.standing.copyFrom(now);
            place.plan.copyFrom(plan);
            place.noticed.copyFrom(noticed);
            place.laid = true;
        }
        return true;
    }

    private Mark markAt(int i) {
        return i >= 0 && i < marks.length ? marks[i] : null;
    }

    public int judged(int what) {
        if (!within(what, 0, 2)) {
            return OTHERS;
        }
        int wrong = NONE;
        int popped = NONE;
        trial.begin(land);
        for (int line = 0; line < plan.size; line++) {
            int done = plan.carryOut(line, trial, land);
            if (done == NONE && wrong == NONE) {
                wrong = line;
            }
            if (done > 0 && popped == NONE) {
                popped = line;
            }
        }
        if (what == 0) {
            return wrong;
        }
        return what == 1 ? popped : trial.crownsOfAll();
    }

    // ---- what comes of it if nothing else is done

    private void beginTrial() {
        trial.copyFrom(now);
    }

    private int passTrial() {
        return trial.pass(land, land.frostOf(trial.nights));
    }

    private void tryNights(int nights) {
        beginTrial();
        for (int n = 0; n < nights; n++) {
            passTrial();
        }
    }

    public int later(int shed, int nights) {
        if (!isShed(shed) || !within(nights, 0, NIGHTS_AHEAD)) {
            return NONE;
        }
        tryNights(nights);
        return at(trial.heights, shed);
    }

    public int creak(int shed, int nights) {
        if (!isShed(shed) || !within(nights, 1, NIGHTS_AHEAD)) {
            return NONE;
        }
        tryNights(nights);
        return at(trial.creaks, shed);
    }

    public int pops(int shed) {
        if (!isShed(shed)) {
            return NONE;
        }
        beginTrial();
        for (int n = 1; n <= NIGHTS_AHEAD; n++) {
            if ((passTrial() >> shed & 1) == 1) {
                return n;
            }
        }
        return NONE;
    }

    public int first() {
        beginTrial();
        for (int n = 1; n <= NIGHTS_AHEAD; n++) {
            int popped = passTrial();
            if (popped != 0) {
                return lowest(popped);
            }
        }
        return NONE;
    }

    private static int lowest(int set) {
        for (int i = 0; i < MOST_SHEDS; i++) {
            if ((set >> i & 1) == 1) {
                return i;
            }
        }
        return NONE;
    }

    public int riot(int shed) {
        if (!isShed(shed)) {
            return NONE;
        }
        beginTrial();
        for (int n = 0; n <= NIGHTS_AHEAD; n++) {
            if (trial.murmur(shed) >= RIOT) {
                return n;
            }
            passTrial();
        }
        return NONE;
    }

    public int calm(int shed) {
        if (!isShed(shed)) {
            return NONE;
        }
        int crowns = at(now.crowns, shed);
        int height = at(now.heights, shed);
        for (int less = 0; less < crowns; less++) {
            if (Standing.murmurOf(height, crowns - less) < RIOT) {
                return less;
            }
        }
        return crowns;
    }

    public int roofed() {
        beginTrial();
        for (int n = 0; n <= NIGHTS_AHEAD; n++) {
            if (trial.allAtRoof(land.roof)) {
                return n;
            }
            passTrial();
        }
        return NONE;
    }

    public int yields(int nights) {
        if (!within(nights, 0, NIGHTS_AHEAD)) {
            return NONE;
        }
        tryNights(nights);
        return trial.murmursOfAll();
    }

    public int loud() {
        int loudest = NONE;
        for (int i = 0; i < land.sheds; i++) {
            if (loudest == NONE || now.murmur(i) > now.murmur(loudest)) {
                loudest = i;
            }
        }
        return loudest;
    }

    public int tall() {
        int highest = NONE;
        for (int i = 0; i < land.sheds; i++) {
            if (highest == NONE || at(now.heights, i) > at(now.heights, highest)) {
                highest = i;
            }
        }
        return highest;
    }

    // ---- stages

    private int hadIn(Standing standing, int stage) {
        int set = 0;
        for (int i = 0; i < land.sheds; i++) {
            if (land.suits(stage, standing.murmur(i))) {
                set |= 1 << i;
            }
        }
        return set;
    }

    public int had(int stage) {
        return isStage(stage) ? hadIn(now, stage) : NONE;
    }

    public int waits(int stage) {
        if (!isStage(stage)) {
            return NONE;
        }
        beginTrial();
        for (int n = 0; n <= NIGHTS_AHEAD; n++) {
            if (hadIn(trial, stage) != 0) {
                return n;
            }
            passTrial();
        }
        return NONE;
    }

    public int plays(int what) {
        if (what != NONE && !isStage(what)) {
            return OTHERS;
        }
        mostGiven = NONE;
        giveFrom(0, 0, 0);
        return what == NONE ? mostGiven : at(bestGiven, what);
    }

    // Rows are tried in their order, so that only a row with more stages may replace an earlier one.
    private void giveFrom(int stage, int taken, int many) {
        if (many + land.stages - stage <= mostGiven) {
            return;
        }
        if (stage >= land.stages) {
            mostGiven = many;
            copyRow(given, bestGiven);
            return;
        }
        giveEach(stage, taken, many);
    }

    private void giveEach(int stage, int taken, int many) {
        int open = hadIn(now, stage) & ~taken;
        for (int i = 0; i < land.sheds; i++) {
            if ((open >> i & 1) == 1) {
                put(given, stage, i);
                giveFrom(stage + 1, taken | 1 << i, many + 1);
            }
        }
        put(given, stage, NONE);
        giveFrom(stage + 1, taken, many);
    }

    public int blend(int stage) {
        if (!isStage(stage)) {
            return NONE;
        }
        int best = NONE;
        int fewest = MOST_SHEDS + 1;
        for (int set = 1; set < 1 << land.sheds; set++) {
            if (Integer.bitCount(set) < fewest && blends(set, stage)) {
                best = set;
                fewest = Integer.bitCount(set);
            }
        }
        return best;
    }

    private boolean blends(int set, int stage) {
        int together = 0;
        for (int i = 0; i < land.sheds; i++) {
            if ((set >> i & 1) == 1) {
                if (at(now.crowns, i) == 0) {
                    return false;
                }
                together += now.murmur(i);
            }
        }
        return land.suits(stage, together);
    }

    public int aim(int stage, int nights, int what) {
        if (!isStage(stage) || !within(nights, 1, NIGHTS_SEEN) || !within(what, 0, 1)) {
            return NONE;
        }
        for (int heat = 0; heat <= MOST_HEAT; heat++) {
            for (int shed = 0; shed < land.sheds; shed++) {
                if (comesInTime(stage, nights, shed, heat)) {
                    return what == 0 ? heat : shed;
                }
            }
        }
        return NONE;
    }

    private boolean comesInTime(int stage, int nights, int shed, int heat) {
        beginTrial();
        trial.heatTo(shed, heat);
        for (int n = 0; n < nights; n++) {
            passTrial();
        }
        return land.suits(stage, trial.murmur(shed));
    }

    // ---- what is near, and who hears of it

    private int reachOf(int shed) {
        int set = 1 << shed;
        for (int step = 0; step < MOST_SHEDS; step++) {
            set = land.withNear(set);
        }
        return set;
    }

    public int reach(int shed) {
        return isShed(shed) ? reachOf(shed) : NONE;
    }

    public int far(int shed, int other) {
        if (!isShed(shed) || !isShed(other)) {
            return NONE;
        }
        int set = 1 << shed;
        for (int step = 0; step < MOST_SHEDS; step++) {
            if ((set >> other & 1) == 1) {
                return step;
            }
            set = land.withNear(set);
        }
        return NONE;
    }

    public int parts() {
        int many = 0;
        for (int i = 0; i < land.sheds; i++) {
            if (lowest(reachOf(i)) == i) {
                many++;
            }
        }
        return many;
    }

    public int heard(int shed) {
        return isShed(shed) ? at(now.heard, shed) : NONE;
    }

    public int news() {
        beginTrial();
        for (int n = 0; n <= NIGHTS_AHEAD; n++) {
            if (allHaveHeard()) {
                return n;
            }
            passTrial();
        }
        return NONE;
    }

    private boolean allHaveHeard() {
        for (int i = 0; i < land.sheds; i++) {
            if ((reachOf(i) & ~at(trial.heard, i)) != 0) {
                return false;
            }
        }
        return true;
    }

    // ---- an unknown shed, by its creaks

    public boolean see(int nights, int much, boolean more) {
        if (!within(nights, 1, NIGHTS_SEEN) || !within(much, 1, MOST_CREAK)) {
            return false;
        }
        return noticed.add(nights, much, more);
    }

    public int who() {
        listen();
        return suspects();
    }

    private void listen() {
        beginTrial();
        for (int n = 0; n < NIGHTS_SEEN; n++) {
            passTrial();
            for (int i = 0; i < land.sheds; i++) {
                put(creaksAhead, n * MOST_SHEDS + i, at(trial.creaks, i));
            }
        }
    }

    private int creakAhead(int nights, int shed) {
        return at(creaksAhead, (nights - 1) * MOST_SHEDS + shed);
    }

    private int suspects() {
        int set = 0;
        for (int i = 0; i < land.sheds; i++) {
            if (isSuspect(i)) {
                set |= 1 << i;
            }
        }
        return set;
    }

    private boolean isSuspect(int shed) {
        for (int i = 0; i < noticed.size; i++) {
            boolean creaked = creakAhead(at(noticed.nights, i), shed) >= at(noticed.much, i);
            if (creaked != (at(noticed.more, i) == 1)) {
                return false;
            }
        }
        return true;
    }

    public int ask() {
        listen();
        int set = suspects();
        int all = Integer.bitCount(set);
        int least = all;
        int best = NONE;
        for (int nights = 1; nights <= NIGHTS_SEEN; nights++) {
            for (int much = 1; much <= MOST_CREAK; much++) {
                int so = creaking(set, nights, much);
                int greater = Math.max(so, all - so);
                if (greater < least) {
                    least = greater;
                    best = 1000 * nights + much;
                }
            }
        }
        return best;
    }

    private int creaking(int set, int nights, int much) {
        int many = 0;
        for (int i = 0; i < land.sheds; i++) {
            if ((set >> i & 1) == 1 && creakAhead(nights, i) >= much) {
                many++;
            }
        }
        return many;
    }

    // ---- games and chances

    public int stick() {
        int balance = 0;
        for (int i = 0; i < land.sheds; i++) {
            balance ^= at(now.crowns, i) % 4;
        }
        if (balance == 0) {
            return NONE;
        }
        for (int i = 0; i < land.sheds; i++) {
            int crowns = at(now.crowns, i);
            for (int many = 1; many <= 3 && many <= crowns; many++) {
                // With three at most a turn, a shed weighs what it leaves over by four.
                if ((balance ^ crowns % 4 ^ (crowns - many) % 4) == 0) {
                    return 4 * i + many;
                }
            }
        }
        return NONE;
    }

    public int chance(int shed, int nights, int odds) {
        if (!isShed(shed) || !within(nights, 1, 6) || !within(odds, 0, 10)) {
            return NONE;
        }
        int likely = 0;
        for (int way = 0; way < 1 << nights; way++) {
            likely += likelihoodAtRoof(shed, nights, odds, way);
        }
        for (int n = nights; n < 6; n++) {
            likely *= 10;
        }
        return likely;
    }

    private int likelihoodAtRoof(int shed, int nights, int odds, int way) {
        int weight = 1;
        beginTrial();
        for (int n = 0; n < nights; n++) {
            boolean cold = (way >> n & 1) == 1;
            weight *= cold ? odds : 10 - odds;
            trial.pass(land, cold ? 9 : 0);
        }
        return at(trial.heights, shed) == land.roof ? weight : 0;
    }

    public int rests(int lose, int speaks, int silent, int what) throws NoSuchElementException {
        if (!within(lose, 0, 9) || !within(speaks, 0, 9) || !within(silent, 0, 9)) {
            throw new NoSuchElementException("no such stump");
        }
        int many = 0;
        for (int pair = 0; pair < 4; pair++) {
            if (isAtRest(lose, speaks, silent, pair)) {
                if (many == what) {
                    return pair;
                }
                many++;
            }
        }
        if (what != NONE) {
            throw new NoSuchElementException("no such rest");
        }
        return many;
    }

    private static boolean isAtRest(int lose, int speaks, int silent, int pair) {
        boolean first = pair >> 1 == 1;
        boolean other = (pair & 1) == 1;
        return keeps(lose, speaks, silent, first, other) && keeps(lose, speaks, silent, other, first);
    }

    private static boolean keeps(int lose, int speaks, int silent, boolean mine, boolean his) {
        int bySpeaking = his ? -lose : speaks;
        int bySilence = his ? silent : 0;
        return mine ? bySpeaking >= bySilence : bySilence >= bySpeaking;
    }

    public int weeks(int seed, int nights, int what) {
        if (!within(seed, 0, 9999) || !within(nights, 1, 99) || !within(what, 0, 2)) {
            return NONE;
        }
        int popped = 0;
        drawn = seed;
        beginTrial();
        for (int n = 0; n < nights; n++) {
            if (land.sheds > 0) {
                meddle();
            }
            popped += Integer.bitCount(passTrial());
        }
        if (what == 0) {
            return popped;
        }
        return what == 1 ? trial.crownsOfAll() : trial.murmursOfAll();
    }

    private void meddle() {
        int shed = draw(land.sheds);
        int deed = draw(5);
        if (deed == 0) {
            trial.lightUp(shed);
        } else if (deed == 1) {
            trial.heatTo(shed, draw(10));
        } else if (deed == 2) {
            int crowns = draw(5) + 1;
            if (trial.canLose(shed, crowns)) {
                trial.lose(shed, crowns);
            }
        }
    }

    private int draw(int below) {
        drawn = (drawn * 1103515245L + 12345L) % 2147483648L;
        return below > 0 ? (int) (drawn / 65536L % below) : 0;
    }

    // ---- the classes inside

    /** The words that mean something; all others are names, and so are the facts outside of a law. */
    private enum Word {
        NAME("", false), SHED("shed", true), HEAT("heat", true), CROWNS("crowns", true), NEAR("near", true),
        STAGE("stage", true), WANTS("wants", true), TO("to", true), FROST("frost", true), ROOF("roof", true),
        GROWS("grows", true), NIGHT("night", true), LIGHT("light", true), PULL("pull", true),
        PLAIN("plain", true), EARLY("early", true), SHY("shy", true), WILD("wild", true), NOT("not", true),
        AND("and", true), OR("or", true), WARM("warm", false), TALL("tall", false), MANY("many", false),
        DATE("date", false);

        private final long letters;
        private final boolean reserved;

        Word(String text, boolean reserved) {
            long sum = 0;
            for (int i = 0; i < text.length(); i++) {
                sum = sum * 27 + text.charAt(i) - 'a' + 1;
            }
            this.letters = sum;
            this.reserved = reserved;
        }
    }

    /** The tape, and the token that is being looked at; the first fault stays, and nothing fits behind it. */
    private static final class Tokens {
        private static final int END = 0;
        private static final int BAD = 1;
        private static final int WORD = 2;
        private static final int NUMBER = 3;
        private static final int SIGN = 4;

        private final int[] signs = new int[MOST_SIGNS];
        private int length;
        private int next;
        private int type;
        private int place;
        private int sign;
        private int number;
        private long letters;
        private Word word = Word.NAME;
        private int fault;

        private void append(int sign) {
            boolean fits = sign == 10 || within(sign, 32, 126);
            if (fits && length < MOST_SIGNS) {
                put(signs, length, sign);
                length++;
            }
        }

        private void empty() {
            length = 0;
        }

        private void begin() {
            next = 0;
            fault = 0;
            advance();
        }

        private void advance() {
            if (fault != 0) {
                return;
            }
            while (next < length && (at(signs, next) == ' ' || at(signs, next) == 10)) {
                next++;
            }
            place = next;
            sign = at(signs, next);
            if (next >= length) {
                type = END;
            } else if (within(sign, 'a', 'z')) {
                readWord();
            } else if (within(sign, '0', '9')) {
                readNumber();
            } else {
                type = "()<=+-*;".indexOf((char) sign) >= 0 ? SIGN : BAD;
                next++;
            }
        }

        private void readWord() {
            letters = 0;
            while (next < length && within(at(signs, next), 'a', 'z')) {
                letters = letters * 27 + at(signs, next) - 'a' + 1;
                next++;
            }
            type = next - place > MOST_LETTERS ? BAD : WORD;
            word = Word.NAME;
            for (Word known : WORDS) {
                if (known.letters == letters) {
                    word = known;
                }
            }
        }

        private void readNumber() {
            number = 0;
            while (next < length && within(at(signs, next), '0', '9')) {
                number = number * 10 + at(signs, next) - '0';
                next++;
            }
            type = next - place > MOST_DIGITS ? BAD : NUMBER;
        }

        private void fail(int kind) {
            if (fault == 0) {
                fault = kind + 16 * place;
            }
        }

        private boolean goesOn() {
            return fault == 0 && type != END;
        }

        private boolean isWord(Word wanted) {
            return fault == 0 && type == WORD && word == wanted;
        }

        private boolean isName() {
            return fault == 0 && type == WORD && !word.reserved;
        }

        private boolean isNumber() {
            return fault == 0 && type == NUMBER;
        }

        private boolean isSign(int wanted) {
            return fault == 0 && type == SIGN && sign == wanted;
        }

        private void takeWord(Word wanted) {
            if (!isWord(wanted)) {
                fail(MISPLACED);
            }
            advance();
        }

        private void takeSign(int wanted) {
            if (!isSign(wanted)) {
                fail(MISPLACED);
            }
            advance();
        }

        private int takeNumber(int least, int most) {
            if (!isNumber()) {
                fail(MISPLACED);
            } else if (!within(number, least, most)) {
                fail(OUT_OF_RANGE);
            }
            int taken = number;
            advance();
            return taken;
        }

        private long takeNewName(Yard yard) {
            if (!isName()) {
                fail(MISPLACED);
            } else if (yard.shedNamed(letters) != NONE || yard.hasStageNamed(letters)) {
                fail(AGAIN);
            }
            long taken = letters;
            advance();
            return taken;
        }

        /** The shed whose name stands here; the name itself stays to be looked at. */
        private int shedHere(Yard yard) {
            if (!isName()) {
                fail(MISPLACED);
            }
            int shed = yard.shedNamed(letters);
            if (shed == NONE) {
                fail(UNKNOWN);
            }
            return shed;
        }
    }

    /** Reads the tape as a yard. */
    private static final class YardReader {
        private static final int ALL = 0;
        private static final int TEST = 1;
        private static final int SUM = 2;
        private static final int PRODUCT = 3;
        private static final int PART = 4;

        private static int read(Tokens tokens, Yard yard) {
            yard.clear();
            tokens.begin();
            for (int line = 0; line < MOST_SIGNS && tokens.goesOn(); line++) {
                if (tokens.isWord(Word.SHED)) {
                    readShed(tokens, yard);
                } else if (tokens.isWord(Word.NEAR)) {
                    readNear(tokens, yard);
                } else if (tokens.isWord(Word.STAGE)) {
                    readStage(tokens, yard);
                } else if (tokens.isWord(Word.FROST)) {
                    readFrost(tokens, yard);
                } else if (tokens.isWord(Word.ROOF)) {
                    readRoof(tokens, yard);
                } else if (tokens.isWord(Word.GROWS)) {
                    if (yard.law.size > 0) {
                        tokens.fail(AGAIN);
                    }
                    tokens.advance();
                    readLaw(tokens, yard.law, ALL, 0);
                } else {
                    tokens.fail(MISPLACED);
                }
                tokens.takeSign(';');
            }
            yard.fillUp();
            return tokens.fault;
        }

        private static void readShed(Tokens tokens, Yard yard) {
            if (yard.sheds >= MOST_SHEDS) {
                tokens.fail(TOO_MANY);
            }
            tokens.advance();
            long name = tokens.takeNewName(yard);
            int kind = takeKind(tokens);
            tokens.takeWord(Word.HEAT);
            int heat = tokens.takeNumber(0, MOST_HEAT);
            tokens.takeWord(Word.CROWNS);
            int crowns = tokens.takeNumber(1, MOST_CROWNS);
            if (tokens.fault == 0) {
                yard.addShed(name, kind, heat, crowns);
            }
        }

        private static int takeKind(Tokens tokens) {
            int kind = NONE;
            if (tokens.isWord(Word.PLAIN)) {
                kind = PLAIN;
            } else if (tokens.isWord(Word.EARLY)) {
                kind = EARLY;
            } else if (tokens.isWord(Word.SHY)) {
                kind = SHY;
            } else if (tokens.isWord(Word.WILD)) {
                kind = WILD;
            } else {
                tokens.fail(MISPLACED);
            }
            tokens.advance();
            return kind;
        }

        private static void readNear(Tokens tokens, Yard yard) {
            tokens.advance();
            int shed = tokens.shedHere(yard);
            tokens.advance();
            int other = tokens.shedHere(yard);
            if (shed == other || yard.areNear(shed, other)) {
                tokens.fail(AGAIN);
            }
            tokens.advance();
            if (tokens.fault == 0) {
                yard.addNear(shed, other);
            }
        }

        private static void readStage(Tokens tokens, Yard yard) {
            if (yard.stages >= MOST_STAGES) {
                tokens.fail(TOO_MANY);
            }
            tokens.advance();
            long name = tokens.takeNewName(yard);
            tokens.takeWord(Word.WANTS);
            int low = tokens.takeNumber(0, 60);
            tokens.takeWord(Word.TO);
            int high = tokens.takeNumber(low, 99);
            if (tokens.fault == 0) {
                yard.addStage(name, low, high);
            }
        }

        private static void readFrost(Tokens tokens, Yard yard) {
            if (yard.frostCount > 0) {
                tokens.fail(AGAIN);
            }
            tokens.advance();
            yard.addFrost(tokens.takeNumber(0, 9));
            for (int n = 1; n <= MOST_FROSTS && tokens.isNumber(); n++) {
                if (n == MOST_FROSTS && within(tokens.number, 0, 9)) {
                    tokens.fail(TOO_MANY);
                }
                yard.addFrost(tokens.takeNumber(0, 9));
            }
        }

        private static void readRoof(Tokens tokens, Yard yard) {
            if (yard.roof > 0) {
                tokens.fail(AGAIN);
            }
            tokens.advance();
            yard.roof = tokens.takeNumber(5, 60);
        }

        private static void readLaw(Tokens tokens, Law law, int level, int depth) {
            if (level >= PART) {
                readPart(tokens, law, depth);
                return;
            }
            readLaw(tokens, law, level + 1, depth);
            for (int n = 0; n < MOST_SIGNS && joinerHere(tokens, level) != Law.NOTHING; n++) {
                int joiner = joinerHere(tokens, level);
                tokens.advance();
                readLaw(tokens, law, level + 1, depth);
                law.add(joiner);
                if (level == TEST) {
                    return;
                }
            }
        }

        private static int joinerHere(Tokens tokens, int level) {
            if (level == ALL) {
                return tokens.isWord(Word.AND) ? Law.AND : tokens.isWord(Word.OR) ? Law.OR : Law.NOTHING;
            }
            if (level == TEST) {
                return tokens.isSign('<') ? Law.LESS : tokens.isSign('=') ? Law.SAME : Law.NOTHING;
            }
            if (level == SUM) {
                return tokens.isSign('+') ? Law.PLUS : tokens.isSign('-') ? Law.MINUS : Law.NOTHING;
            }
            return tokens.isSign('*') ? Law.TIMES : Law.NOTHING;
        }

        private static void readPart(Tokens tokens, Law law, int depth) {
            int leaf = leafHere(tokens);
            boolean not = tokens.isWord(Word.NOT);
            boolean open = tokens.isSign('(');
            if (leaf == Law.NOTHING && !not && !open) {
                tokens.fail(MISPLACED);
                return;
            }
            if (depth >= MOST_WITHIN) {
                tokens.fail(TOO_MANY);
                return;
            }
            tokens.advance();
            if (not) {
                readPart(tokens, law, depth + 1);
                law.add(Law.NOT);
            } else if (open) {
                readLaw(tokens, law, ALL, depth + 1);
                tokens.takeSign(')');
            } else {
                law.add(leaf);
            }
        }

        private static int leafHere(Tokens tokens) {
            if (tokens.isNumber()) {
                return tokens.number;
            }
            if (tokens.isWord(Word.WARM)) {
                return Law.WARM;
            }
            if (tokens.isWord(Word.TALL)) {
                return Law.TALL;
            }
            if (tokens.isWord(Word.MANY)) {
                return Law.MANY;
            }
            return tokens.isWord(Word.DATE) ? Law.DATE : Law.NOTHING;
        }
    }

    /** Reads the tape as a week. */
    private static final class WeekReader {
        private static int read(Tokens tokens, Week week, Yard yard) {
            week.clear();
            tokens.begin();
            for (int line = 0; line <= MOST_LINES && tokens.goesOn(); line++) {
                readLine(tokens, week, yard);
                tokens.takeSign(';');
            }
            return tokens.fault;
        }

        private static void readLine(Tokens tokens, Week week, Yard yard) {
            int deed = deedHere(tokens);
            if (deed == NONE) {
                tokens.fail(MISPLACED);
            } else if (week.size >= MOST_LINES) {
                tokens.fail(TOO_MANY);
            }
            tokens.advance();
            int shed = NONE;
            int number = 0;
            if (deed != Week.NIGHT) {
                shed = tokens.shedHere(yard);
                tokens.advance();
            }
            if (deed == Week.HEAT) {
                number = tokens.takeNumber(0, MOST_HEAT);
            } else if (deed == Week.PULL) {
                number = tokens.takeNumber(1, MOST_CROWNS);
            }
            if (tokens.fault == 0) {
                week.add(deed, shed, number);
            }
        }

        private static int deedHere(Tokens tokens) {
            if (tokens.isWord(Word.NIGHT)) {
                return Week.NIGHT;
            }
            if (tokens.isWord(Word.HEAT)) {
                return Week.HEAT;
            }
            if (tokens.isWord(Word.LIGHT)) {
                return Week.LIGHT;
            }
            return tokens.isWord(Word.PULL) ? Week.PULL : NONE;
        }
    }

    /** A law of growing, its parts ahead of what joins them: numbers stand for themselves. */
    private static final class Law {
        private static final int WARM = -1;
        private static final int TALL = -2;
        private static final int MANY = -3;
        private static final int DATE = -4;
        private static final int NOT = -5;
        private static final int AND = -6;
        private static final int OR = -7;
        private static final int LESS = -8;
        private static final int SAME = -9;
        private static final int PLUS = -10;
        private static final int MINUS = -11;
        private static final int TIMES = -12;
        private static final int NOTHING = -13;

        private final int[] code = new int[MOST_SIGNS];
        private int size;
        private final int[] facts = new int[4];
        // Four levels may wait at each of the depths, with what they wait for on top.
        private final int[] stack = new int[4 * (MOST_WITHIN + 1) + 1];

        private void clear() {
            size = 0;
        }

        private void add(int op) {
            if (size < MOST_SIGNS) {
                put(code, size, op);
                size++;
            }
        }

        private int amount(int warm, int tall, int many, int date) {
            put(facts, 0, warm);
            put(facts, 1, tall);
            put(facts, 2, many);
            put(facts, 3, date);
            int top = 0;
            for (int i = 0; i < size; i++) {
                int op = at(code, i);
                if (op <= AND) {
                    top--;
                    put(stack, top - 1, joined(op, at(stack, top - 1), at(stack, top)));
                } else if (op == NOT) {
                    put(stack, top - 1, at(stack, top - 1) == 0 ? 1 : 0);
                } else {
                    put(stack, top, op >= 0 ? op : at(facts, WARM - op));
                    top++;
                }
            }
            return at(stack, 0);
        }

        private static int joined(int op, int left, int right) {
            switch (op) {
                case AND:
                    return left != 0 && right != 0 ? 1 : 0;
                case OR:
                    return left != 0 || right != 0 ? 1 : 0;
                case LESS:
                    return left < right ? 1 : 0;
                case SAME:
                    return left == right ? 1 : 0;
                case PLUS:
                    return left + right;
                case MINUS:
                    return left - right;
                default:
                    return left * right;
            }
        }
    }

    /** A yard as it was told. */
    private static final class Yard {
        private final long[] shedNames = new long[MOST_SHEDS];
        private final int[] kinds = new int[MOST_SHEDS];
        private final int[] heats = new int[MOST_SHEDS];
        private final int[] crowns = new int[MOST_SHEDS];
        private final int[] near = new int[MOST_SHEDS];
        private int sheds;
        private final long[] stageNames = new long[MOST_STAGES];
        private final int[] lows = new int[MOST_STAGES];
        private final int[] highs = new int[MOST_STAGES];
        private int stages;
        private final int[] frosts = new int[MOST_FROSTS];
        private int frostCount;
        private int roof = 30;
        private final Law law = new Law();

        private void clear() {
            sheds = 0;
            stages = 0;
            frostCount = 0;
            roof = 0;
            law.clear();
        }

        /** What was not told is as the document has it without. */
        private void fillUp() {
            if (roof == 0) {
                roof = 30;
            }
            if (law.size == 0) {
                law.add(Law.WARM);
            }
        }

        private void addShed(long name, int kind, int heat, int many) {
            if (sheds < MOST_SHEDS) {
                put(shedNames, sheds, name);
                put(kinds, sheds, kind);
                put(heats, sheds, heat);
                put(crowns, sheds, many);
                put(near, sheds, 0);
                sheds++;
            }
        }

        private void addStage(long name, int low, int high) {
            if (stages < MOST_STAGES) {
                put(stageNames, stages, name);
                put(lows, stages, low);
                put(highs, stages, high);
                stages++;
            }
        }

        private void addNear(int shed, int other) {
            put(near, shed, at(near, shed) | 1 << other);
            put(near, other, at(near, other) | 1 << shed);
        }

        private void addFrost(int frost) {
            if (frostCount < MOST_FROSTS) {
                put(frosts, frostCount, frost);
                frostCount++;
            }
        }

        private int shedNamed(long name) {
            for (int i = 0; i < sheds; i++) {
                if (at(shedNames, i) == name) {
                    return i;
                }
            }
            return NONE;
        }

        private boolean hasStageNamed(long name) {
            for (int i = 0; i < stages; i++) {
                if (at(stageNames, i) == name) {
                    return true;
                }
            }
            return false;
        }

        private boolean areNear(int shed, int other) {
            return (at(near, shed) >> other & 1) == 1;
        }

        private int withNear(int set) {
            int wider = set;
            for (int i = 0; i < sheds; i++) {
                if ((set >> i & 1) == 1) {
                    wider |= at(near, i);
                }
            }
            return wider;
        }

        private int frostOf(int night) {
            return frostCount > 0 ? at(frosts, night % frostCount) : 0;
        }

        private boolean suits(int stage, int murmur) {
            return within(murmur, at(lows, stage), at(highs, stage));
        }
    }

    /** How it stands in the sheds: heights, heats, crowns, light, and what was heard. */
    private static final class Standing {
        private int sheds;
        private int nights;
        private int lit;
        private final int[] heights = new int[MOST_SHEDS];
        private final int[] heats = new int[MOST_SHEDS];
        private final int[] crowns = new int[MOST_SHEDS];
        private final int[] heard = new int[MOST_SHEDS];
        private final int[] heardAhead = new int[MOST_SHEDS];
        // Of the night that went by last: it is asked for behind a night alone, so no copy holds it.
        private final int[] creaks = new int[MOST_SHEDS];

        private void begin(Yard yard) {
            sheds = yard.sheds;
            nights = 0;
            lit = 0;
            copyRow(yard.heats, heats);
            copyRow(yard.crowns, crowns);
            for (int i = 0; i < MOST_SHEDS; i++) {
                put(heights, i, 0);
                put(heard, i, 1 << i);
            }
        }

        private void copyFrom(Standing other) {
            sheds = other.sheds;
            nights = other.nights;
            lit = other.lit;
            copyRow(other.heights, heights);
            copyRow(other.heats, heats);
            copyRow(other.crowns, crowns);
            copyRow(other.heard, heard);
        }

        /** One night goes by with this frost: the sheds that pop. */
        private int pass(Yard yard, int frost) {
            int popped = 0;
            for (int i = 0; i < sheds; i++) {
                int ahead = at(heights, i);
                int grown = growth(yard, i, frost);
                put(heights, i, ahead + grown);
                put(creaks, i, grown * at(crowns, i));
                if (ahead < POP_HEIGHT && ahead + grown >= POP_HEIGHT) {
                    popped |= 1 << i;
                }
            }
            passOnHearsay(yard);
            lit = 0;
            nights++;
            return popped;
        }

        // Of the others it looks at crowns and light alone, which stay as they are until all have grown.
        private int growth(Yard yard, int shed, int frost) {
            int many = at(crowns, shed);
            if (many == 0 || isLit(shed)) {
                return 0;
            }
            int height = at(heights, shed);
            int warm = Math.max(0, at(heats, shed) - frost);
            int grown = Math.max(0, Math.min(MOST_GROWTH, yard.law.amount(warm, height, many, nights)));
            int kind = at(yard.kinds, shed);
            if (kind == EARLY && height < POP_HEIGHT) {
                grown++;
            } else if (kind == SHY && (at(yard.near, shed) & lit) != 0) {
                grown /= 2;
            } else if (kind == WILD) {
                grown += greaterNear(yard, shed);
            }
            return Math.min(grown, yard.roof - height);
        }

        private int greaterNear(Yard yard, int shed) {
            int greater = 0;
            int near = at(yard.near, shed);
            for (int i = 0; i < sheds; i++) {
                if ((near >> i & 1) == 1 && at(crowns, i) > at(crowns, shed)) {
                    greater++;
                }
            }
            return greater;
        }

        private void passOnHearsay(Yard yard) {
            copyRow(heard, heardAhead);
            for (int i = 0; i < sheds; i++) {
                for (int j = 0; j < sheds; j++) {
                    if (at(creaks, i) > 0 && yard.areNear(i, j)) {
                        put(heard, j, at(heard, j) | at(heardAhead, i));
                    }
                }
            }
        }

        private boolean isLit(int shed) {
            return (lit >> shed & 1) == 1;
        }

        private boolean lightUp(int shed) {
            boolean dark = !isLit(shed);
            lit |= 1 << shed;
            return dark;
        }

        private void heatTo(int shed, int heat) {
            put(heats, shed, heat);
        }

        private boolean canLose(int shed, int many) {
            return at(crowns, shed) >= many && at(heights, shed) >= POP_HEIGHT;
        }

        private void lose(int shed, int many) {
            put(crowns, shed, at(crowns, shed) - many);
            if (at(crowns, shed) == 0) {
                put(heights, shed, 0);
            }
        }

        private static int murmurOf(int height, int many) {
            return Math.min(999, height * many / 10);
        }

        private int murmur(int shed) {
            return murmurOf(at(heights, shed), at(crowns, shed));
        }

        private int murmursOfAll() {
            int sum = 0;
            for (int i = 0; i < sheds; i++) {
                sum += murmur(i);
            }
            return sum;
        }

        private int crownsOfAll() {
            int sum = 0;
            for (int i = 0; i < sheds; i++) {
                sum += at(crowns, i);
            }
            return sum;
        }

        private boolean allAtRoof(int roof) {
            for (int i = 0; i < sheds; i++) {
                if (at(crowns, i) > 0 && at(heights, i) < roof) {
                    return false;
                }
            }
            return true;
        }
    }

    /** The lines of a week. */
    private static final class Week {
        private static final int NIGHT = 0;
        private static final int HEAT = 1;
        private static final int LIGHT = 2;
        private static final int PULL = 3;

        private final int[] deeds = new int[MOST_LINES];
        private final int[] places = new int[MOST_LINES];
        private final int[] numbers = new int[MOST_LINES];
        private int size;

        private void clear() {
            size = 0;
        }

        private void add(int deed, int shed, int number) {
            if (size < MOST_LINES) {
                put(deeds, size, deed);
                put(places, size, shed);
                put(numbers, size, number);
                size++;
            }
        }

        private void copyFrom(Week other) {
            size = other.size;
            copyRow(other.deeds, deeds);
            copyRow(other.places, places);
            copyRow(other.numbers, numbers);
        }

        /** The sheds that pop by this line, NONE if it can't be. */
        private int carryOut(int line, Standing standing, Yard yard) {
            int deed = at(deeds, line);
            int shed = at(places, line);
            int number = at(numbers, line);
            if (deed == NIGHT) {
                return standing.pass(yard, yard.frostOf(standing.nights));
            }
            if (deed == HEAT) {
                standing.heatTo(shed, number);
                return 0;
            }
            if (deed == LIGHT) {
                return standing.lightUp(shed) ? 0 : NONE;
            }
            if (!standing.canLose(shed, number)) {
                return NONE;
            }
            standing.lose(shed, number);
            return 0;
        }
    }

    /** What was noticed of an unknown shed. */
    private static final class Seen {
        private final int[] nights = new int[MOST_SEEN];
        private final int[] much = new int[MOST_SEEN];
        private final int[] more = new int[MOST_SEEN];
        private int size;

        private void clear() {
            size = 0;
        }

        private boolean add(int night, int amount, boolean orMore) {
            if (size >= MOST_SEEN) {
                return false;
            }
            put(nights, size, night);
            put(much, size, amount);
            put(more, size, orMore ? 1 : 0);
            size++;
            return true;
        }

        private void copyFrom(Seen other) {
            size = other.size;
            copyRow(other.nights, nights);
            copyRow(other.much, much);
            copyRow(other.more, more);
        }
    }

    /** What a mark holds. */
    private static final class Mark {
        private boolean laid;
        private final Standing standing = new Standing();
        private final Week plan = new Week();
        private final Seen noticed = new Seen();
    }
}
