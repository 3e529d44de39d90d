/** A wreck field, as DOC.md tells it: one object holds the marks, finds, dives, rules and plans of one wreck. */
public final class WreckField {
    public static final int NONE = -1, BAD = -2, STATE = -3, FULL = -4;
    public static final long NO = -4611686018427387904L;

    private static final int ABSENT = -11, OUTSIDE = -12, OTHER_SORT = -13, BELOW_ZERO = -14;
    private static final int REFUSED = -20, FAULTY = -100, NO_BOND = -1000;
    private static final int DAYS = 1000, DAY_MINUTES = 1440, MOMENTS = DAYS * DAY_MINUTES;

    private final Survey survey = new Survey();
    private final Yard yard = new Yard();
    private final DiveLog log = new DiveLog();
    private final RuleReader reader = new RuleReader();
    private final Timbers timbers = new Timbers();
    private final Planner planner = new Planner();
    private final Wreck wreck = new Wreck();
    private final Sheets sheets = new Sheets();

    public WreckField() {
    }

    // ---- marks

    public int mark(int x, int y, boolean isFixed) {
        return survey.addMark(x, y, isFixed);
    }

    public int tape(int a, int b, int length) {
        return survey.addTape(a, b, length);
    }

    public int tapes(int sheet, int from, int n) {
        if (!sheets.has(sheet) || n < 0) {
            return BAD;
        }
        int refusal = sheets.floatsRefusal(sheet);
        if (refusal != 0) {
            return refusal;
        }
        int at = from;
        for (int k = 0; k < n; k++) {
            if (!sheets.holds(sheet, at) || !sheets.holds(sheet, at + 2)) {
                return OUTSIDE;
            }
            int answer = tapeFrom(sheet, at);
            if (answer < 0) {
                return answer;
            }
            at += 3;
        }
        return survey.tapeCount;
    }

    private int tapeFrom(int sheet, int at) {
        if (!sheets.isNumber(sheet, at) || !sheets.isNumber(sheet, at + 1) || !sheets.isNumber(sheet, at + 2)) {
            return survey.tapeCount;
        }
        return survey.addTape(sheets.whole(sheet, at), sheets.whole(sheet, at + 1), sheets.whole(sheet, at + 2));
    }

    public int bar(int n) {
        return survey.changeBar(n);
    }

    public long fit(int mark, int what) {
        return survey.markTold(mark, what);
    }

    public long tapeTold(int tape, int what) {
        return survey.tapeItem(tape, what);
    }

    public long sum() {
        return survey.squares();
    }

    // ---- finds, tanks

    public int find(int kind, int square, int layer, int size) {
        return yard.addFind(kind, square, layer, size);
    }

    public int hole(int find, int place) {
        Find timber = yard.timberAt(find);
        if (timber == null || place < 0 || place > 99) {
            return BAD;
        }
        return timber.addHole(place);
    }

    public int findTold(int find, int what) {
        Find told = yard.findAt(find);
        return told == null ? BAD : told.item(what);
    }

    public int tank(int kind, int room) {
        return yard.addTank(kind, room);
    }

    public int tankTold(int tank, int what) {
        return yard.tankItem(tank, what);
    }

    public int lift(int find, int tank, int day) {
        int refusal = liftRefusal(find, tank, day);
        if (refusal < 0) {
            return refusal;
        }
        if (refusal > 0) {
            return REFUSED - refusal;
        }
        Find lifted = yard.findAt(find);
        if (lifted != null) {
            lifted.goInto(tank, day);
        }
        return 1;
    }

    public int why(int find, int tank, int day) {
        return liftRefusal(find, tank, day);
    }

    private int liftRefusal(int find, int tank, int day) {
        Find asked = yard.findAt(find);
        if (asked == null || !yard.hasTank(tank) || !isDay(day)) {
            return BAD;
        }
        int refusal = yard.refusal(asked, tank);
        if (refusal != 0) {
            return refusal;
        }
        int holding = reader.current.firstHolding(asked, day);
        return holding < 0 ? 0 : 4 + holding;
    }

    private static boolean isDay(int day) {
        return day >= 0 && day < DAYS;
    }

    public int take(int find, int day) {
        Find asked = yard.findAt(find);
        if (asked == null || !isDay(day)) {
            return BAD;
        }
        if (asked.tank == NONE || day < asked.readyDay()) {
            return STATE;
        }
        asked.goOut();
        return 1;
    }

    // ---- dives

    public int diver() {
        return log.addDiver();
    }

    public int row(int depth, int minutes, int rest) {
        return log.putRow(depth, minutes, rest);
    }

    public int dive(int a, int b, int moment, int depth, int minutes) {
        if (!log.canBeAsked(a, b, moment, depth, minutes)) {
            return BAD;
        }
        int refusal = log.refusal(a, b, moment, depth, minutes);
        if (refusal != 0) {
            return REFUSED - refusal;
        }
        return log.addDive(a, b, moment, depth, minutes);
    }

    public int cancel() {
        return log.dropLast();
    }

    public int under(int diver, int day) {
        return log.hasDiver(diver) && isDay(day) ? log.minutesOn(diver, day) : BAD;
    }

    public int soonest(int a, int b, int moment, int depth, int minutes) {
        if (!log.canBeAsked(a, b, moment, depth, minutes)) {
            return BAD;
        }
        return log.firstMoment(a, b, moment, depth, minutes);
    }

    // ---- rules

    public int feed(int n, long bytes) {
        return reader.append(n, bytes);
    }

    public int rule() {
        return reader.readAll();
    }

    public long worth(int find, int day, int k) {
        Find asked = yard.findAt(find);
        if (asked == null || !isDay(day) || k < 0 || k >= reader.current.bars) {
            return NO;
        }
        return reader.current.valueOf(k, asked, day);
    }

    // ---- timbers

    public int bond(int a, int b, int what) {
        Find first = yard.timberAt(a);
        Find second = yard.timberAt(b);
        if (first == null || second == null || a == b || what < 0 || what > 1) {
            return NO_BOND;
        }
        timbers.match(first, second);
        return what == 0 ? timbers.greatest : timbers.shift;
    }

    public int best(int timber) {
        return timbers.bestOf(yard, timber);
    }

    public int joined(int timber) {
        int other = timbers.bestOf(yard, timber);
        if (other < 0) {
            return other;
        }
        return timbers.bestOf(yard, other) == timber ? other : NONE;
    }

    // ---- plans

    public int task(int minutes, int worth) {
        return planner.addTask(minutes, worth);
    }

    public int gang(int minutes) {
        return planner.addGang(minutes);
    }

    public int plan() {
        return planner.greatestWorth();
    }

    public int planned(int task) {
        return planner.gangOf(task);
    }

    // ---- aboard

    public int hatches(int bits) {
        return wreck.openHatches(bits);
    }

    public int roll(int n) {
        return wreck.changeRoll(n);
    }

    public int stood(int find) {
        Find asked = yard.findAt(find);
        return asked == null ? BAD : wreck.ways(asked);
    }

    public int stoodAt(int find, int i) {
        Find asked = yard.findAt(find);
        return asked == null ? BAD : wreck.wayAt(asked, i);
    }

    public int count(int what) {
        switch (what) {
            case 0: return survey.markCount;
            case 1: return survey.tapeCount;
            case 2: return yard.findCount;
            case 3: return yard.tankCount;
            case 4: return log.divers;
            case 5: return log.rows;
            case 6: return log.diveCount;
            case 7: return reader.size;
            case 8: return reader.current.bars;
            case 9: return planner.tasks;
            case 10: return planner.gangs;
            case 11: return yard.inField();
            case 12: return survey.fittedRound();
            default: return BAD;
        }
    }

    // ---- the host

    public int sheet(int sheet, int sort, int n) {
        return sheets.make(sheet, sort, n);
    }

    public int cell(int sheet, int i, int v) {
        return sheets.put(sheet, i, v);
    }

    public int none(int sheet, int i) {
        return sheets.wipe(sheet, i);
    }

    public int taken(int find, int k) {
        if (k < 0 || k >= Find.KINDS) {
            return BAD;
        }
        Find asked = yard.findAt(find);
        if (asked == null) {
            return ABSENT;
        }
        return asked.isUnder(k) ? asked.square : OTHER_SORT;
    }

    /** MARKS and TAPES, and THE FIT. */
    private static final class Survey {
        static final int MOST_MARKS = 8, MOST_TAPES = 24, PLACE = 5000, LENGTH = 15000;
        static final int FIRST_STEP = 512, TIMES = 4, NEVER = 99, ROOT_STEPS = 60;
        static final long NO_LIMIT = 1L << 62;

        int markCount = 0;
        int tapeCount = 0;
        private int bar = 100;
        private final int[] toldX = new int[MOST_MARKS];
        private final int[] toldY = new int[MOST_MARKS];
        private final boolean[] fixed = new boolean[MOST_MARKS];
        private final int[] firstMark = new int[MOST_TAPES];
        private final int[] secondMark = new int[MOST_TAPES];
        private final int[] lengths = new int[MOST_TAPES];

        // Which TAPE goes OUT next does not hang on THE BAR, which only tells where the going OUT ends.
        // So the rounds (round r: r TAPES are OUT) are kept, and a new BAR needs no new fitting.
        private int rounds = 0;
        private final int[] roundX = new int[MOST_MARKS * (MOST_TAPES + 1)];
        private final int[] roundY = new int[MOST_MARKS * (MOST_TAPES + 1)];
        private final int[] worstSize = new int[MOST_TAPES + 1];
        private final int[] outFrom = new int[MOST_TAPES];

        private int near = 0;
        private final int[] nearX = new int[MOST_TAPES];
        private final int[] nearY = new int[MOST_TAPES];
        private final int[] nearLength = new int[MOST_TAPES];

        int addMark(int x, int y, boolean isFixed) {
            if (x < -PLACE || x > PLACE || y < -PLACE || y > PLACE) {
                return BAD;
            }
            if (markCount >= MOST_MARKS) {
                return FULL;
            }
            toldX[markCount] = x;
            toldY[markCount] = y;
            fixed[markCount] = isFixed;
            markCount++;
            forgetRounds();
            return markCount - 1;
        }

        int addTape(int a, int b, int length) {
            if (!hasMark(a) || !hasMark(b) || a == b || length < 1 || length > LENGTH) {
                return BAD;
            }
            if (tapeCount >= MOST_TAPES) {
                return FULL;
            }
            firstMark[tapeCount] = a;
            secondMark[tapeCount] = b;
            lengths[tapeCount] = length;
            tapeCount++;
            forgetRounds();
            return tapeCount - 1;
        }

        private boolean hasMark(int mark) {
            return mark >= 0 && mark < markCount;
        }

        private void forgetRounds() {
            rounds = 0;
            for (int tape = 0; tape < tapeCount; tape++) {
                outFrom[tape] = NEVER;
            }
        }

        int changeBar(int n) {
            if (n < 1 || n > LENGTH) {
                return BAD;
            }
            int was = bar;
            bar = n;
            return was;
        }

        long markTold(int mark, int what) {
            if (!hasMark(mark) || what < 0 || what > 1) {
                return NO;
            }
            int at = MOST_MARKS * fittedRound() + mark;
            return what == 0 ? roundX[at] : roundY[at];
        }

        long tapeItem(int tape, int what) {
            if (tape < 0 || tape >= tapeCount) {
                return NO;
            }
            switch (what) {
                case 0: return firstMark[tape];
                case 1: return secondMark[tape];
                case 2: return lengths[tape];
                case 3: return isOut(tape, fittedRound()) ? 1 : 0;
                case 4: return miss(tape, fittedRound());
                default: return NO;
            }
        }

        long squares() {
            int round = fittedRound();
            long squares = 0;
            for (int tape = 0; tape < tapeCount; tape++) {
                if (!isOut(tape, round)) {
                    long miss = miss(tape, round);
                    squares += miss * miss;
                }
            }
            return squares;
        }

        /** The round that is THE FIT: as many TAPES are OUT. */
        int fittedRound() {
            for (int round = 0; round < tapeCount; round++) {
                fitIfNew(round);
                if (worstSize[round] <= bar) {
                    return round;
                }
            }
            fitIfNew(tapeCount);
            return tapeCount;
        }

        private boolean isOut(int tape, int round) {
            return outFrom[tape] <= round;
        }

        private int miss(int tape, int round) {
            int a = MOST_MARKS * round + firstMark[tape];
            int b = MOST_MARKS * round + secondMark[tape];
            return distance(roundX[a] - roundX[b], roundY[a] - roundY[b], lengths[tape]) - lengths[tape];
        }

        /** The cut root of two squares. The guess is only where it begins: a TAPE that nearly fits costs few steps. */
        private static int distance(int dx, int dy, int guess) {
            int squares = dx * dx + dy * dy;
            if (squares < 1 || guess < 1) {
                return 0;
            }
            // One step from any guess comes to the root or above it; from there the steps only fall.
            int root = (guess + squares / guess) / 2;
            for (int step = 0; step < ROOT_STEPS && root > 0; step++) {
                int next = (root + squares / root) / 2;
                if (next >= root) {
                    break;
                }
                root = next;
            }
            return root;
        }

        private void fitIfNew(int round) {
            if (round < rounds) {
                return;
            }
            goToTold(round);
            for (int step = FIRST_STEP; step >= 1; step /= 2) {
                // A time at which no MARK goes is the same again the next time.
                boolean isMoving = true;
                for (int time = 0; time < TIMES && isMoving; time++) {
                    isMoving = false;
                    for (int mark = 0; mark < markCount; mark++) {
                        if (!fixed[mark] && moveMark(mark, round, step)) {
                            isMoving = true;
                        }
                    }
                }
            }
            judge(round);
            rounds = round + 1;
        }

        private void goToTold(int round) {
            for (int mark = 0; mark < markCount; mark++) {
                roundX[MOST_MARKS * round + mark] = toldX[mark];
                roundY[MOST_MARKS * round + mark] = toldY[mark];
            }
        }

        private void gatherNear(int mark, int round) {
            near = 0;
            for (int tape = 0; tape < tapeCount; tape++) {
                boolean first = firstMark[tape] == mark;
                if (!isOut(tape, round) && (first || secondMark[tape] == mark)) {
                    int other = MOST_MARKS * round + (first ? secondMark[tape] : firstMark[tape]);
                    nearX[near] = roundX[other];
                    nearY[near] = roundY[other];
                    nearLength[near] = lengths[tape];
                    near++;
                }
            }
        }

        private boolean moveMark(int mark, int round, int step) {
            gatherNear(mark, round);
            int at = MOST_MARKS * round + mark;
            int ownX = roundX[at];
            int ownY = roundY[at];
            int leastX = ownX;
            int leastY = ownY;
            long least = nearSquares(ownX, ownY, NO_LIMIT);
            for (int right = -1; right <= 1; right++) {
                for (int up = -1; up <= 1; up++) {
                    int x = ownX + right * step;
                    int y = ownY + up * step;
                    long squares = nearSquares(x, y, least);
                    if (squares < least) {
                        least = squares;
                        leastX = x;
                        leastY = y;
                    }
                }
            }
            roundX[at] = leastX;
            roundY[at] = leastY;
            return leastX != ownX || leastY != ownY;
        }

        /** Ends early once the place can no longer be below the limit. */
        private long nearSquares(int x, int y, long limit) {
            long squares = 0;
            for (int i = 0; i < near && squares < limit; i++) {
                long miss = distance(x - nearX[i], y - nearY[i], nearLength[i]) - nearLength[i];
                squares += miss * miss;
            }
            return squares;
        }

        private void judge(int round) {
            int worst = NONE;
            int size = -1;
            for (int tape = 0; tape < tapeCount; tape++) {
                if (!isOut(tape, round)) {
                    int missed = Math.abs(miss(tape, round));
                    if (missed > size) {
                        size = missed;
                        worst = tape;
                    }
                }
            }
            worstSize[round] = size;
            if (worst >= 0) {
                outFrom[worst] = round + 1;
            }
        }
    }

    /** A FIND: what was told of it, its HOLES, and where it is. */
    private static final class Find {
        static final int KINDS = 6, TIMBER = 1, MOST_HOLES = 8;
        private static final int[] KIND_ABOVE = {NONE, 0, 0, 0, 0, 3};
        private static final int[] WEEKS = {4, 8, 6, 2, 10, 1};

        final int kind;
        final int square;
        final int layer;
        final int size;
        int holeCount = 0;
        final int[] holes = new int[MOST_HOLES];
        boolean isInField = true;
        int tank = NONE;
        private int came = NONE;

        Find(int kind, int square, int layer, int size) {
            this.kind = kind;
            this.square = square;
            this.layer = layer;
            this.size = size;
        }

        int x() {
            return square % 10;
        }

        int y() {
            return square / 10;
        }

        boolean isUnder(int wanted) {
            int at = kind;
            for (int step = 0; step < KINDS && at >= 0 && at < KINDS; step++) {
                if (at == wanted) {
                    return true;
                }
                at = KIND_ABOVE[at];
            }
            return false;
        }

        int addHole(int place) {
            for (int i = 0; i < holeCount; i++) {
                if (holes[i] == place) {
                    return STATE;
                }
            }
            if (holeCount >= MOST_HOLES) {
                return FULL;
            }
            holes[holeCount] = place;
            holeCount++;
            return holeCount;
        }

        int item(int what) {
            switch (what) {
                case 0: return kind;
                case 1: return square;
                case 2: return layer;
                case 3: return size;
                case 4: return holeCount;
                case 5: return tank;
                case 6: return came;
                case 7: return readyDay();
                default: return BAD;
            }
        }

        int readyDay() {
            return tank == NONE || kind < 0 || kind >= KINDS ? NONE : came + 7 * WEEKS[kind] * size;
        }

        void goInto(int newTank, int day) {
            isInField = false;
            tank = newTank;
            came = day;
        }

        void goOut() {
            tank = NONE;
            came = NONE;
        }
    }

    /** FINDS and TANKS. */
    private static final class Yard {
        static final int MOST_FINDS = 20, MOST_TANKS = 6;

        int findCount = 0;
        int tankCount = 0;
        private final Find[] finds = new Find[MOST_FINDS];
        private final int[] tankKind = new int[MOST_TANKS];
        private final int[] tankRoom = new int[MOST_TANKS];

        int addFind(int kind, int square, int layer, int size) {
            if (kind < 0 || kind >= Find.KINDS || square < 0 || square > 99) {
                return BAD;
            }
            if (layer < 0 || layer > 3 || size < 1 || size > 9) {
                return BAD;
            }
            if (findCount >= MOST_FINDS) {
                return FULL;
            }
            finds[findCount] = new Find(kind, square, layer, size);
            findCount++;
            return findCount - 1;
        }

        /** The FIND of that number; null: no such. */
        Find findAt(int find) {
            return find >= 0 && find < findCount ? finds[find] : null;
        }

        /** The TIMBER of that number; null: no such FIND, or another KIND. */
        Find timberAt(int find) {
            Find found = findAt(find);
            return found != null && found.kind == Find.TIMBER ? found : null;
        }

        int inField() {
            int n = 0;
            for (int i = 0; i < findCount; i++) {
                Find found = finds[i];
                if (found != null && found.isInField) {
                    n++;
                }
            }
            return n;
        }

        int addTank(int kind, int room) {
            if (kind < 0 || kind >= Find.KINDS || room < 1 || room > 40) {
                return BAD;
            }
            if (tankCount >= MOST_TANKS) {
                return FULL;
            }
            tankKind[tankCount] = kind;
            tankRoom[tankCount] = room;
            tankCount++;
            return tankCount - 1;
        }

        boolean hasTank(int tank) {
            return tank >= 0 && tank < tankCount;
        }

        int tankItem(int tank, int what) {
            if (!hasTank(tank)) {
                return BAD;
            }
            switch (what) {
                case 0: return tankKind[tank];
                case 1: return tankRoom[tank];
                case 2: return sizesIn(tank);
                case 3: return findsIn(tank);
                default: return BAD;
            }
        }

        private int sizesIn(int tank) {
            int sizes = 0;
            for (int i = 0; i < findCount; i++) {
                Find found = finds[i];
                if (found != null && found.tank == tank) {
                    sizes += found.size;
                }
            }
            return sizes;
        }

        private int findsIn(int tank) {
            int n = 0;
            for (int i = 0; i < findCount; i++) {
                Find found = finds[i];
                if (found != null && found.tank == tank) {
                    n++;
                }
            }
            return n;
        }

        /** WHY 1 to 3 of a lifting into a TANK that there is; 0: none of them. */
        int refusal(Find find, int tank) {
            if (!find.isInField) {
                return 1;
            }
            if (!find.isUnder(tankKind[tank])) {
                return 2;
            }
            return sizesIn(tank) + find.size > tankRoom[tank] ? 3 : 0;
        }
    }

    /** A DIVE that was taken. */
    private static final class Dive {
        final int a;
        final int b;
        final int start;
        final int depth;
        final int minutes;

        Dive(int a, int b, int start, int depth, int minutes) {
            this.a = a;
            this.b = b;
            this.start = start;
            this.depth = depth;
            this.minutes = minutes;
        }

        int end() {
            return start + minutes;
        }

        boolean has(int diver) {
            return a == diver || b == diver;
        }

        boolean meets(int from, int to) {
            return start <= to && from <= end();
        }
    }

    /** DIVERS, THE TABLE and the DIVES. */
    private static final class DiveLog {
        static final int MOST_DIVERS = 6, MOST_ROWS = 8, MOST_DIVES = 40;
        static final int DEPTH = 90, MINUTES = 200, REST = 1440, DAY_LIMIT = 120, SEARCH = 10080;
        // A step of the search leaves a DIVE or a DAY behind for good: 40 DIVES and 8 DAYS at most.
        static final int SEARCH_STEPS = 100;

        int divers = 0;
        int rows = 0;
        int diveCount = 0;
        private final int[] rowDepth = new int[MOST_ROWS];
        private final int[] rowMinutes = new int[MOST_ROWS];
        private final int[] rowRest = new int[MOST_ROWS];
        private final Dive[] dives = new Dive[MOST_DIVES];

        int addDiver() {
            if (divers >= MOST_DIVERS) {
                return FULL;
            }
            divers++;
            return divers - 1;
        }

        boolean hasDiver(int diver) {
            return diver >= 0 && diver < divers;
        }

        int putRow(int depth, int minutes, int rest) {
            if (depth < 1 || depth > DEPTH || minutes < 1 || minutes > MINUTES || rest < 1 || rest > REST) {
                return BAD;
            }
            int at = firstRowFrom(depth);
            if (at == rows || rowDepth[at] != depth) {
                if (rows >= MOST_ROWS) {
                    return FULL;
                }
                openRow(at);
            }
            rowDepth[at] = depth;
            rowMinutes[at] = minutes;
            rowRest[at] = rest;
            return rows;
        }

        /** The ROW of a depth; the number of ROWS: there is none. */
        private int firstRowFrom(int depth) {
            int at = 0;
            while (at < rows && rowDepth[at] < depth) {
                at++;
            }
            return at;
        }

        private void openRow(int at) {
            for (int i = rows; i > at; i--) {
                rowDepth[i] = rowDepth[i - 1];
                rowMinutes[i] = rowMinutes[i - 1];
                rowRest[i] = rowRest[i - 1];
            }
            rows++;
        }

        private int restAfter(int depth) {
            int row = firstRowFrom(depth);
            return row < rows ? rowRest[row] : 0;
        }

        boolean canBeAsked(int a, int b, int moment, int depth, int minutes) {
            if (!hasDiver(a) || !hasDiver(b) || a == b || moment < 0 || moment >= MOMENTS) {
                return false;
            }
            return depth >= 1 && depth <= DEPTH && minutes >= 1 && minutes <= MINUTES;
        }

        /** WHY a DIVE is refused; 0: it is not. */
        int refusal(int a, int b, int moment, int depth, int minutes) {
            int tableRefusal = tableRefusal(depth, minutes);
            return tableRefusal != 0 ? tableRefusal : timeRefusal(a, b, moment, minutes, restAfter(depth));
        }

        private int tableRefusal(int depth, int minutes) {
            int row = firstRowFrom(depth);
            if (row >= rows) {
                return 1;
            }
            return minutes > rowMinutes[row] ? 2 : 0;
        }

        private int timeRefusal(int a, int b, int moment, int minutes, int rest) {
            boolean isRest = false;
            int end = moment + minutes;
            for (int i = 0; i < diveCount; i++) {
                Dive other = dives[i];
                if (other != null && (other.has(a) || other.has(b))) {
                    if (other.meets(moment, end)) {
                        return 3;
                    }
                    isRest = isRest || isTooNear(other, moment, end, rest);
                }
            }
            if (isRest) {
                return 4;
            }
            int day = moment / DAY_MINUTES;
            int most = Math.max(minutesOn(a, day), minutesOn(b, day));
            return most + minutes > DAY_LIMIT ? 5 : 0;
        }

        /** Of a DIVE that does not meet these times: whether one of both comes before the rest of the former is over. */
        private boolean isTooNear(Dive other, int moment, int end, int rest) {
            if (other.end() < moment) {
                return moment - other.end() < restAfter(other.depth);
            }
            return other.start - end < rest;
        }

        int minutesOn(int diver, int day) {
            int minutes = 0;
            for (int i = 0; i < diveCount; i++) {
                Dive dive = dives[i];
                if (dive != null && dive.has(diver) && dive.start / DAY_MINUTES == day) {
                    minutes += dive.minutes;
                }
            }
            return minutes;
        }

        int addDive(int a, int b, int moment, int depth, int minutes) {
            if (diveCount >= MOST_DIVES) {
                return FULL;
            }
            dives[diveCount] = new Dive(a, b, moment, depth, minutes);
            diveCount++;
            return diveCount - 1;
        }

        int dropLast() {
            if (diveCount < 1) {
                return STATE;
            }
            diveCount--;
            dives[diveCount] = null;
            return diveCount;
        }

        int firstMoment(int a, int b, int moment, int depth, int minutes) {
            if (tableRefusal(depth, minutes) != 0) {
                return NONE;
            }
            int rest = restAfter(depth);
            int last = Math.min(moment + SEARCH, MOMENTS - 1);
            int at = moment;
            for (int step = 0; step < SEARCH_STEPS && at <= last; step++) {
                int refusal = timeRefusal(a, b, at, minutes, rest);
                if (refusal == 0) {
                    return at;
                }
                boolean isDayFull = refusal == 5;
                at = isDayFull ? (at / DAY_MINUTES + 1) * DAY_MINUTES : pastHindrance(a, b, at, minutes, rest);
            }
            return NONE;
        }

        /** The moments that one DIVE hinders lie side by side, so all up to its end and rest can be passed over. */
        private int pastHindrance(int a, int b, int moment, int minutes, int rest) {
            int past = moment + 1;
            int end = moment + minutes;
            for (int i = 0; i < diveCount; i++) {
                Dive other = dives[i];
                if (other != null && (other.has(a) || other.has(b))) {
                    if (other.meets(moment, end) || isTooNear(other, moment, end, rest)) {
                        past = Math.max(past, other.end() + Math.max(1, restAfter(other.depth)));
                    }
                }
            }
            return past;
        }
    }

    /** The bars of a RULE, each as steps for a stack. */
    private static final class Rule {
        static final int MOST_BARS = 6, MOST_STEPS = 160;
        static final int NUMBER = 0, NAME = 1, NEGATE = 2, NOT = 3;
        static final int TIMES = 4, PLUS = 5, MINUS = 6, LESS = 7, SAME = 8, AND = 9, OR = 10;

        int bars = 0;
        private int steps = 0;
        private final int[] barEnd = new int[MOST_BARS];
        private final int[] step = new int[MOST_STEPS];
        private final int[] operand = new int[MOST_STEPS];
        private final int[] stack = new int[MOST_STEPS];

        void clear() {
            bars = 0;
            steps = 0;
        }

        void add(int newStep, int newOperand) {
            if (steps < MOST_STEPS) {
                step[steps] = newStep;
                operand[steps] = newOperand;
                steps++;
            }
        }

        void endBar() {
            if (bars < MOST_BARS) {
                barEnd[bars] = steps;
                bars++;
            }
        }

        /** The first bar that holds; NONE: none does. */
        int firstHolding(Find find, int day) {
            for (int k = 0; k < bars; k++) {
                if (valueOf(k, find, day) != 0) {
                    return k;
                }
            }
            return NONE;
        }

        /** What bar k comes to, for a k of 0 .. bars - 1. */
        int valueOf(int k, Find find, int day) {
            int top = 0;
            int from = k > 0 ? barEnd[k - 1] : 0;
            for (int i = from; i < barEnd[k]; i++) {
                if (step[i] == NUMBER && top < MOST_STEPS) {
                    stack[top] = operand[i];
                    top++;
                } else if (step[i] == NAME && top < MOST_STEPS) {
                    stack[top] = named(operand[i], find, day);
                    top++;
                } else if (step[i] <= NOT && top >= 1) {
                    stack[top - 1] = ofOne(step[i], stack[top - 1]);
                } else if (top >= 2) {
                    stack[top - 2] = ofTwo(step[i], stack[top - 2], stack[top - 1]);
                    top--;
                }
            }
            return stack[0];
        }

        private static int named(int name, Find find, int day) {
            switch (name) {
                case 0: return find.kind;
                case 1: return find.size;
                case 2: return find.layer;
                case 3: return find.x();
                case 4: return find.y();
                default: return day;
            }
        }

        private static int ofOne(int step, int a) {
            return step == NEGATE ? -a : truth(a == 0);
        }

        private static int ofTwo(int step, int a, int b) {
            switch (step) {
                case TIMES: return a * b;
                case PLUS: return a + b;
                case MINUS: return a - b;
                case LESS: return truth(a < b);
                case SAME: return truth(a == b);
                case AND: return truth(a != 0 && b != 0);
                default: return truth(a != 0 || b != 0);
            }
        }

        private static int truth(boolean holds) {
            return holds ? 1 : 0;
        }
    }

    /** THE TAPE of bytes, and the reading of it as THE RULE. */
    private static final class RuleReader {
        static final int MOST_BYTES = 160, MOST_OPEN = 5, LONGEST_NUMBER = 4, NAMES = 6;
        // Kinds of TOKENS, beside the SIGNS, which are their own bytes; the KEYS stand in the order of wordAt.
        static final int END = 0, WRONG = 1, NUMBER = 2, NAME = 3;
        static final int KEY_BAR = 10, KEY_OR = 11, KEY_AND = 12, KEY_NOT = 13, WORDS = 10;

        Rule current = new Rule();
        private Rule draft = new Rule();
        int size = 0;
        private final int[] text = new int[MOST_BYTES];
        private int tokenStart = 0;
        private int tokenEnd = 0;
        private int token = END;
        private int value = 0;

        int append(int n, long bytes) {
            if (n < 1 || n > 8) {
                return BAD;
            }
            if (size + n > MOST_BYTES) {
                return FULL;
            }
            for (int i = 0; i < n; i++) {
                text[size] = (int) ((bytes >>> (8 * i)) & 255);
                size++;
            }
            return size;
        }

        int readAll() {
            tokenEnd = 0;
            draft.clear();
            next();
            boolean isRule = readBars();
            size = 0;
            if (!isRule) {
                return FAULTY - tokenStart;
            }
            Rule old = current;
            current = draft;
            draft = old;
            return current.bars;
        }

        // Each of these reads from the TOKEN at hand on. It answers false with the FAULT as the TOKEN at hand.

        private boolean readBars() {
            for (int n = 0; n < Rule.MOST_BARS && token == KEY_BAR; n++) {
                next();
                if (!readOr(0) || token != ';') {
                    return false;
                }
                draft.endBar();
                next();
            }
            return token == END;
        }

        private boolean readOr(int open) {
            boolean isRight = readAnd(open);
            for (int n = 0; n < MOST_BYTES && isRight && token == KEY_OR; n++) {
                next();
                isRight = readAnd(open);
                draft.add(Rule.OR, 0);
            }
            return isRight;
        }

        private boolean readAnd(int open) {
            boolean isRight = readNot(open);
            for (int n = 0; n < MOST_BYTES && isRight && token == KEY_AND; n++) {
                next();
                isRight = readNot(open);
                draft.add(Rule.AND, 0);
            }
            return isRight;
        }

        private boolean readNot(int open) {
            if (token != KEY_NOT) {
                return readCompared(open);
            }
            if (open >= MOST_OPEN) {
                return false;
            }
            next();
            boolean isRight = readNot(open + 1);
            draft.add(Rule.NOT, 0);
            return isRight;
        }

        private boolean readCompared(int open) {
            if (!readSum(open)) {
                return false;
            }
            if (token != '<' && token != '=') {
                return true;
            }
            int step = token == '<' ? Rule.LESS : Rule.SAME;
            next();
            boolean isRight = readSum(open);
            draft.add(step, 0);
            return isRight;
        }

        private boolean readSum(int open) {
            boolean isRight = readTerm(open);
            for (int n = 0; n < MOST_BYTES && isRight && (token == '+' || token == '-'); n++) {
                int step = token == '+' ? Rule.PLUS : Rule.MINUS;
                next();
                isRight = readTerm(open);
                draft.add(step, 0);
            }
            return isRight;
        }

        private boolean readTerm(int open) {
            boolean isRight = readOne(open);
            for (int n = 0; n < MOST_BYTES && isRight && token == '*'; n++) {
                next();
                isRight = readOne(open);
                draft.add(Rule.TIMES, 0);
            }
            return isRight;
        }

        private boolean readOne(int open) {
            if (token == NUMBER || token == NAME) {
                draft.add(token == NUMBER ? Rule.NUMBER : Rule.NAME, value);
                next();
                return true;
            }
            if (token != '-' && token != '(' || open >= MOST_OPEN) {
                return false;
            }
            return token == '-' ? readNegated(open + 1) : readInner(open + 1);
        }

        private boolean readNegated(int open) {
            next();
            boolean isRight = readOne(open);
            draft.add(Rule.NEGATE, 0);
            return isRight;
        }

        private boolean readInner(int open) {
            next();
            if (!readOr(open) || token != ')') {
                return false;
            }
            next();
            return true;
        }

        /** Makes the next TOKEN the one at hand. */
        private void next() {
            int at = tokenEnd;
            while (at < size && (text[at] == ' ' || text[at] == '\n')) {
                at++;
            }
            tokenStart = at;
            tokenEnd = at;
            if (at >= size) {
                token = END;
            } else if (isLetter(text[at])) {
                takeWord();
            } else if (isDigit(text[at])) {
                takeNumber();
            } else {
                token = isSign(text[at]) ? text[at] : WRONG;
                tokenEnd = at + 1;
            }
        }

        private static boolean isLetter(int sign) {
            return sign >= 'a' && sign <= 'z';
        }

        private static boolean isDigit(int sign) {
            return sign >= '0' && sign <= '9';
        }

        private static boolean isSign(int sign) {
            switch (sign) {
                case '(': case ')': case ';': case '+': case '-': case '*': case '<': case '=': return true;
                default: return false;
            }
        }

        private void takeNumber() {
            value = 0;
            while (tokenEnd < size && isDigit(text[tokenEnd])) {
                value = 10 * value + text[tokenEnd] - '0';
                tokenEnd++;
            }
            token = tokenEnd - tokenStart > LONGEST_NUMBER ? WRONG : NUMBER;
        }

        private void takeWord() {
            while (tokenEnd < size && isLetter(text[tokenEnd])) {
                tokenEnd++;
            }
            token = WRONG;
            for (int i = 0; i < WORDS; i++) {
                if (isAtHand(wordAt(i))) {
                    token = i < NAMES ? NAME : KEY_BAR + i - NAMES;
                    value = i;
                }
            }
        }

        private boolean isAtHand(String word) {
            if (word.length() != tokenEnd - tokenStart) {
                return false;
            }
            for (int i = 0; i < word.length(); i++) {
                if (word.charAt(i) != text[tokenStart + i]) {
                    return false;
                }
            }
            return true;
        }

        private static String wordAt(int i) {
            switch (i) {
                case 0: return "kind";
                case 1: return "size";
                case 2: return "layer";
                case 3: return "x";
                case 4: return "y";
                case 5: return "day";
                case 6: return "bar";
                case 7: return "or";
                case 8: return "and";
                default: return "not";
            }
        }
    }

    /** How TIMBERS match by their HOLES. */
    private static final class Timbers {
        static final int FARTHEST = 50, LEAST_BOND = 2;

        private final int[] sums = new int[2 * FARTHEST + 1];
        int greatest = 0;
        int shift = 0;

        /** Sets greatest to the BOND of two TIMBERS, and shift to its SHIFT. */
        void match(Find a, Find b) {
            for (int i = 0; i < sums.length; i++) {
                sums[i] = 0;
            }
            for (int i = 0; i < a.holeCount; i++) {
                for (int j = 0; j < b.holeCount; j++) {
                    int apart = b.holes[j] - a.holes[i];
                    if (apart >= -FARTHEST && apart <= FARTHEST) {
                        sums[FARTHEST + apart]++;
                    }
                }
            }
            greatest = -1;
            for (int far = 0; far <= FARTHEST; far++) {
                takeIfGreater(-far);
                takeIfGreater(far);
            }
        }

        private void takeIfGreater(int newShift) {
            if (sums[FARTHEST + newShift] > greatest) {
                greatest = sums[FARTHEST + newShift];
                shift = newShift;
            }
        }

        int bestOf(Yard yard, int timber) {
            Find asked = yard.timberAt(timber);
            if (asked == null) {
                return BAD;
            }
            int best = NONE;
            int bestBond = LEAST_BOND - 1;
            for (int i = 0; i < yard.findCount; i++) {
                Find other = yard.timberAt(i);
                if (other != null && i != timber) {
                    match(asked, other);
                    if (greatest > bestBond) {
                        bestBond = greatest;
                        best = i;
                    }
                }
            }
            return best;
        }
    }

    /**
     * TASKS, GANGS and THE PLAN.
     *
     * The GANGS of the TASKS of a PLAN, TASK 0 first and 4 for none, are the digits of its order, in base 5. THE PLAN
     * has the greatest WORTH, then the least order: the greatest merit, if a merit is the WORTH in units that are above
     * all orders, less the order. Merits of sets of TASKS add up, so each set (bit t: TASK t) needs only its best one.
     */
    private static final class Planner {
        static final int MOST_TASKS = 9, MOST_GANGS = 4, SETS = 1 << MOST_TASKS;
        static final int NO_GANG = 4, BASE = 5, FIRST_PLACE = 390625;
        static final long UNIT = (long) BASE * FIRST_PLACE;

        int tasks = 0;
        int gangs = 0;
        private final int[] gangMinutes = new int[MOST_GANGS];
        private final int[] setMinutes = new int[SETS];
        private final int[] setPlaces = new int[SETS];
        private final long[] setWorth = new long[SETS];
        private final long[] bestMerit = new long[SETS];
        private boolean isPlanned = false;
        private int greatest = 0;
        private final int[] gangOfTask = new int[MOST_TASKS];

        int addTask(int minutes, int worth) {
            if (minutes < 1 || minutes > 200 || worth < 0 || worth > 999) {
                return BAD;
            }
            if (tasks >= MOST_TASKS) {
                return FULL;
            }
            int place = FIRST_PLACE;
            for (int task = 0; task < tasks; task++) {
                place /= BASE;
            }
            int task = 1 << tasks;
            for (int set = 0; set < task; set++) {
                setMinutes[task + set] = setMinutes[set] + minutes;
                setPlaces[task + set] = setPlaces[set] + place;
                setWorth[task + set] = setWorth[set] + worth * UNIT;
            }
            tasks++;
            isPlanned = false;
            return tasks - 1;
        }

        int addGang(int minutes) {
            if (minutes < 0 || minutes > 400) {
                return BAD;
            }
            if (gangs >= MOST_GANGS) {
                return FULL;
            }
            gangMinutes[gangs] = minutes;
            gangs++;
            isPlanned = false;
            return gangs - 1;
        }

        int greatestWorth() {
            planIfNew();
            return greatest;
        }

        int gangOf(int task) {
            if (task < 0 || task >= tasks) {
                return BAD;
            }
            planIfNew();
            return gangOfTask[task];
        }

        private void planIfNew() {
            if (isPlanned) {
                return;
            }
            int all = (1 << tasks) - 1;
            for (int set = 0; set <= all; set++) {
                bestMerit[set] = -NO_GANG * setPlaces[set];
            }
            for (int gang = gangs - 1; gang >= 0; gang--) {
                giveToGang(gang, all);
            }
            keepPlan(bestMerit[all]);
            isPlanned = true;
        }

        private void giveToGang(int gang, int all) {
            // Downward, since a set looks at smaller ones as they were without this GANG.
            for (int set = all; set > 0; set--) {
                long best = bestMerit[set];
                for (int part = set; part > 0; part = (part - 1) & set) {
                    if (setMinutes[part] <= gangMinutes[gang]) {
                        long merit = setWorth[part] - gang * setPlaces[part] + bestMerit[set - part];
                        best = Math.max(best, merit);
                    }
                }
                bestMerit[set] = best;
            }
        }

        private void keepPlan(long merit) {
            greatest = (int) ((merit + UNIT - 1) / UNIT);
            int order = (int) (greatest * UNIT - merit);
            int place = FIRST_PLACE;
            for (int task = 0; task < tasks && place > 0; task++) {
                int digit = order / place % BASE;
                gangOfTask[task] = digit == NO_GANG ? NONE : digit;
                place /= BASE;
            }
        }
    }

    /** The ship before she struck: HATCHES and ROLL. */
    private static final class Wreck {
        static final int DECKS = 5, HATCH_BITS = 30, MOST_ROLL = 9, LAST_LAYER = 3, WIDTH = 10;

        private int open = 0;
        private int roll = 0;

        int openHatches(int bits) {
            if ((bits & ~HATCH_BITS) != 0) {
                return BAD;
            }
            int was = open;
            open = bits;
            return was;
        }

        int changeRoll(int n) {
            if (n < -MOST_ROLL || n > MOST_ROLL) {
                return BAD;
            }
            int was = roll;
            roll = n;
            return was;
        }

        int ways(Find find) {
            int n = 0;
            for (int deck = 0; deck < DECKS; deck++) {
                if (placeOn(deck, find) != NONE) {
                    n++;
                }
            }
            return n;
        }

        int wayAt(Find find, int i) {
            int n = 0;
            for (int deck = 0; deck < DECKS; deck++) {
                int place = placeOn(deck, find);
                if (place != NONE) {
                    if (n == i) {
                        return WIDTH * deck + place;
                    }
                    n++;
                }
            }
            return NONE;
        }

        /** The one x on a DECK from which a FIND came to where it lay; NONE: none. */
        private int placeOn(int deck, Find find) {
            int down = decksDown(deck);
            int x = find.x() - down * roll;
            boolean isLayer = Math.min(down, LAST_LAYER) == find.layer;
            return isLayer && x >= 0 && x < WIDTH ? x : NONE;
        }

        private int decksDown(int deck) {
            int down = 0;
            for (int at = deck; at > 0 && ((open >> at) & 1) == 1; at--) {
                down++;
            }
            return down;
        }
    }

    /** SHEETS of the host. */
    private static final class Sheets {
        static final int SHEETS = 4, MOST_ITEMS = 40, MISSING = -1, BYTES = 0, SHORTS = 1, FLOATS = 2;
        static final int MOST_VALUE = 40000, NO_NUMBER = MOST_VALUE + 1;

        private final int[] sorts = {MISSING, MISSING, MISSING, MISSING};
        private final int[] sizes = new int[SHEETS];
        // Floats are kept as the halves that they are told in, so that no answer hangs on their arithmetic.
        private final int[][] items = new int[SHEETS][MOST_ITEMS];

        boolean has(int sheet) {
            return sheet >= 0 && sheet < SHEETS;
        }

        int make(int sheet, int sort, int n) {
            if (!has(sheet) || sort < MISSING || sort > FLOATS) {
                return BAD;
            }
            if (sort == MISSING) {
                sorts[sheet] = MISSING;
                sizes[sheet] = 0;
                return 1;
            }
            if (n > MOST_ITEMS) {
                return BAD;
            }
            if (n < 0) {
                return BELOW_ZERO;
            }
            sorts[sheet] = sort;
            sizes[sheet] = n;
            for (int i = 0; i < n; i++) {
                items[sheet][i] = 0;
            }
            return 1;
        }

        int put(int sheet, int i, int v) {
            if (!has(sheet) || v < -MOST_VALUE || v > MOST_VALUE) {
                return BAD;
            }
            if (sorts[sheet] == MISSING) {
                return ABSENT;
            }
            if (!holds(sheet, i)) {
                return OUTSIDE;
            }
            items[sheet][i] = cutTo(sorts[sheet], v);
            return 1;
        }

        private static int cutTo(int sort, int v) {
            switch (sort) {
                case BYTES: return (byte) v;
                case SHORTS: return (short) v;
                default: return v;
            }
        }

        int wipe(int sheet, int i) {
            if (!has(sheet)) {
                return BAD;
            }
            int refusal = floatsRefusal(sheet);
            if (refusal != 0) {
                return refusal;
            }
            if (!holds(sheet, i)) {
                return OUTSIDE;
            }
            items[sheet][i] = NO_NUMBER;
            return 1;
        }

        /** Why a SHEET can't be had as floats; 0: it can. */
        int floatsRefusal(int sheet) {
            if (sorts[sheet] == MISSING) {
                return ABSENT;
            }
            return sorts[sheet] == FLOATS ? 0 : OTHER_SORT;
        }

        boolean holds(int sheet, int i) {
            return i >= 0 && i < sizes[sheet];
        }

        boolean isNumber(int sheet, int i) {
            return items[sheet][i] != NO_NUMBER;
        }

        /** The float of an item, cut to a whole number. */
        int whole(int sheet, int i) {
            return items[sheet][i] / 2;
        }
    }
}
