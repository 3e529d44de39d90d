import java.util.ArrayList;
import java.util.Arrays;
import java.util.List;
import java.util.TreeMap;
import java.util.TreeSet;

/**
 * The document told a second time, as slowly and as literally as can be, for ModelTest to compare WreckField with.
 * It keeps nothing from one answer to the next, tries everything, and uses the Java library and its exceptions.
 */
final class SlowField {
    static final int NONE = -1, BAD = -2, STATE = -3, FULL = -4;
    static final long NO = -4611686018427387904L;

    record Mark(int x, int y, boolean fixed) { }
    record Tape(int a, int b, int length) { }
    record Tank(int kind, int room) { }
    record Row(int minutes, int rest) { }
    record Dive(int a, int b, int moment, int depth, int minutes) { }
    record Task(int minutes, int worth) { }

    static final class Found {
        int kind, square, layer, size;
        TreeSet<Integer> holes = new TreeSet<>();
        String where = "field";
        int tank = NONE, came = NONE;
    }

    final List<Mark> marks = new ArrayList<>();
    final List<Tape> tapes = new ArrayList<>();
    final List<Found> finds = new ArrayList<>();
    final List<Tank> tanks = new ArrayList<>();
    final TreeMap<Integer, Row> table = new TreeMap<>();
    final List<Dive> dives = new ArrayList<>();
    final List<Task> tasks = new ArrayList<>();
    final List<Integer> gangs = new ArrayList<>();
    final StringBuilder tapeText = new StringBuilder();
    List<SlowRule.Node> rule = new ArrayList<>();
    final Object[] sheets = new Object[4];
    int bar = 100, divers, hatches, roll;

    static boolean in(int n, int least, int most) {
        return least <= n && n <= most;
    }

    static boolean of(int n, List<?> list) {
        return in(n, 0, list.size() - 1);
    }

    // ---- marks

    int mark(int x, int y, boolean isFixed) {
        if (!in(x, -5000, 5000) || !in(y, -5000, 5000)) return BAD;
        if (marks.size() == 8) return FULL;
        marks.add(new Mark(x, y, isFixed));
        return marks.size() - 1;
    }

    int tape(int a, int b, int length) {
        if (!of(a, marks) || !of(b, marks) || a == b || !in(length, 1, 15000)) return BAD;
        if (tapes.size() == 24) return FULL;
        tapes.add(new Tape(a, b, length));
        return tapes.size() - 1;
    }

    int tapes(int sheet, int from, int n) {
        if (!in(sheet, 0, 3) || n < 0) return BAD;
        try {
            float[] row = (float[]) sheets[sheet];
            int size = row.length;
            for (int k = 0; k < n; k++) {
                float a = row[from + 3 * k], b = row[from + 3 * k + 1], length = row[from + 3 * k + 2];
                if (Float.isNaN(a) || Float.isNaN(b) || Float.isNaN(length)) continue;
                int answer = tape((int) a, (int) b, (int) length);
                if (answer < 0) return answer;
            }
            return tapes.size();
        } catch (ClassCastException e) {
            return -13;
        } catch (NullPointerException e) {
            return -11;
        } catch (ArrayIndexOutOfBoundsException e) {
            return -12;
        }
    }

    int bar(int n) {
        if (!in(n, 1, 15000)) return BAD;
        int was = bar;
        bar = n;
        return was;
    }

    final class Fit {
        final int[] x = new int[marks.size()], y = new int[marks.size()];
        final boolean[] out = new boolean[tapes.size()];

        Fit() {
            while (true) {
                place();
                int worst = -1;
                for (int t = 0; t < tapes.size(); t++) {
                    if (!out[t] && Math.abs(miss(t)) > bar && (worst < 0 || Math.abs(miss(t)) > Math.abs(miss(worst)))) {
                        worst = t;
                    }
                }
                if (worst < 0) return;
                out[worst] = true;
            }
        }

        long miss(int t) {
            Tape tape = tapes.get(t);
            double dx = x[tape.a] - x[tape.b], dy = y[tape.a] - y[tape.b];
            return (long) Math.floor(Math.sqrt(dx * dx + dy * dy)) - tape.length;
        }

        void place() {
            for (int m = 0; m < x.length; m++) {
                x[m] = marks.get(m).x;
                y[m] = marks.get(m).y;
            }
            for (int s : new int[] {512, 256, 128, 64, 32, 16, 8, 4, 2, 1}) {
                for (int time = 0; time < 4; time++) {
                    for (int m = 0; m < x.length; m++) {
                        if (!marks.get(m).fixed) move(m, s);
                    }
                }
            }
        }

        void move(int m, int s) {
            int ownX = x[m], ownY = y[m];
            List<long[]> places = new ArrayList<>();
            for (int dx = -s; dx <= s; dx += s) {
                for (int dy = -s; dy <= s; dy += s) {
                    x[m] = ownX + dx;
                    y[m] = ownY + dy;
                    long squares = 0;
                    for (int t = 0; t < tapes.size(); t++) {
                        Tape tape = tapes.get(t);
                        if (!out[t] && (tape.a == m || tape.b == m)) squares += miss(t) * miss(t);
                    }
                    places.add(new long[] {squares, dx == 0 && dy == 0 ? 0 : 1, x[m], y[m]});
                }
            }
            long[] best = places.stream().min(Arrays::compare).get();
            x[m] = (int) best[2];
            y[m] = (int) best[3];
        }
    }

    long fit(int mark, int what) {
        if (!of(mark, marks) || !in(what, 0, 1)) return NO;
        Fit fit = new Fit();
        return what == 0 ? fit.x[mark] : fit.y[mark];
    }

    long tapeTold(int tape, int what) {
        if (!of(tape, tapes) || !in(what, 0, 4)) return NO;
        Tape told = tapes.get(tape);
        if (what < 3) return what == 0 ? told.a : what == 1 ? told.b : told.length;
        Fit fit = new Fit();
        return what == 3 ? (fit.out[tape] ? 1 : 0) : fit.miss(tape);
    }

    long sum() {
        Fit fit = new Fit();
        long sum = 0;
        for (int t = 0; t < tapes.size(); t++) {
            if (!fit.out[t]) sum += fit.miss(t) * fit.miss(t);
        }
        return sum;
    }

    // ---- finds, tanks

    int find(int kind, int square, int layer, int size) {
        if (!in(kind, 0, 5) || !in(square, 0, 99) || !in(layer, 0, 3) || !in(size, 1, 9)) return BAD;
        if (finds.size() == 20) return FULL;
        Found found = new Found();
        found.kind = kind;
        found.square = square;
        found.layer = layer;
        found.size = size;
        finds.add(found);
        return finds.size() - 1;
    }

    boolean isTimber(int find) {
        return of(find, finds) && finds.get(find).kind == 1;
    }

    int hole(int find, int place) {
        if (!isTimber(find) || !in(place, 0, 99)) return BAD;
        TreeSet<Integer> holes = finds.get(find).holes;
        if (holes.contains(place)) return STATE;
        if (holes.size() == 8) return FULL;
        holes.add(place);
        return holes.size();
    }

    static int ready(Found found) {
        return found.came + new int[] {4, 8, 6, 2, 10, 1}[found.kind] * found.size * 7;
    }

    int findTold(int find, int what) {
        if (!of(find, finds) || !in(what, 0, 7)) return BAD;
        Found found = finds.get(find);
        return new int[] {found.kind, found.square, found.layer, found.size, found.holes.size(), found.tank, found.came,
            found.tank == NONE ? NONE : ready(found)}[what];
    }

    int tank(int kind, int room) {
        if (!in(kind, 0, 5) || !in(room, 1, 40)) return BAD;
        if (tanks.size() == 6) return FULL;
        tanks.add(new Tank(kind, room));
        return tanks.size() - 1;
    }

    int tankTold(int tank, int what) {
        if (!of(tank, tanks) || !in(what, 0, 3)) return BAD;
        int sizes = finds.stream().filter(f -> f.tank == tank).mapToInt(f -> f.size).sum();
        int many = (int) finds.stream().filter(f -> f.tank == tank).count();
        return new int[] {tanks.get(tank).kind, tanks.get(tank).room, sizes, many}[what];
    }

    static boolean isUnder(int kind, int k) {
        return k == 0 || kind == k || k == 3 && kind == 5;
    }

    int why(int find, int tank, int day) {
        if (!of(find, finds) || !of(tank, tanks) || !in(day, 0, 999)) return BAD;
        Found found = finds.get(find);
        if (!found.where.equals("field")) return 1;
        if (!isUnder(found.kind, tanks.get(tank).kind)) return 2;
        if (tankTold(tank, 2) + found.size > tanks.get(tank).room) return 3;
        for (int k = 0; k < rule.size(); k++) {
            if (worth(find, day, k) != 0) return 4 + k;
        }
        return 0;
    }

    int lift(int find, int tank, int day) {
        int why = why(find, tank, day);
        if (why != 0) return why == BAD ? BAD : -20 - why;
        Found found = finds.get(find);
        found.where = "tank";
        found.tank = tank;
        found.came = day;
        return 1;
    }

    int take(int find, int day) {
        if (!of(find, finds) || !in(day, 0, 999)) return BAD;
        Found found = finds.get(find);
        if (!found.where.equals("tank") || day < ready(found)) return STATE;
        found.where = "gone";
        found.tank = NONE;
        found.came = NONE;
        return 1;
    }

    // ---- dives

    int diver() {
        return divers == 6 ? FULL : divers++;
    }

    int row(int depth, int minutes, int rest) {
        if (!in(depth, 1, 90) || !in(minutes, 1, 200) || !in(rest, 1, 1440)) return BAD;
        if (!table.containsKey(depth) && table.size() == 8) return FULL;
        table.put(depth, new Row(minutes, rest));
        return table.size();
    }

    int restOf(int depth) {
        return table.ceilingKey(depth) == null ? 0 : table.ceilingEntry(depth).getValue().rest;
    }

    boolean badDive(int a, int b, int moment, int depth, int minutes) {
        return !in(a, 0, divers - 1) || !in(b, 0, divers - 1) || a == b || !in(moment, 0, 1439999)
            || !in(depth, 1, 90) || !in(minutes, 1, 200);
    }

    int whyDive(int a, int b, int moment, int depth, int minutes) {
        if (table.ceilingKey(depth) == null) return 1;
        if (minutes > table.ceilingEntry(depth).getValue().minutes) return 2;
        int why = 9;
        for (int diver : new int[] {a, b}) {
            int onDay = minutes;
            for (Dive d : dives) {
                if (d.a != diver && d.b != diver) continue;
                int end = moment + minutes, otherEnd = d.moment + d.minutes;
                if (d.moment / 1440 == moment / 1440) onDay += d.minutes;
                if (otherEnd < moment) {
                    if (moment - otherEnd < restOf(d.depth)) why = Math.min(why, 4);
                } else if (end < d.moment) {
                    if (d.moment - end < restOf(depth)) why = Math.min(why, 4);
                } else {
                    why = Math.min(why, 3);
                }
            }
            if (onDay > 120) why = Math.min(why, 5);
        }
        return why == 9 ? 0 : why;
    }

    int dive(int a, int b, int moment, int depth, int minutes) {
        if (badDive(a, b, moment, depth, minutes)) return BAD;
        int why = whyDive(a, b, moment, depth, minutes);
        if (why != 0) return -20 - why;
        if (dives.size() == 40) return FULL;
        dives.add(new Dive(a, b, moment, depth, minutes));
        return dives.size() - 1;
    }

    int cancel() {
        if (dives.isEmpty()) return STATE;
        dives.remove(dives.size() - 1);
        return dives.size();
    }

    int under(int diver, int day) {
        if (!in(diver, 0, divers - 1) || !in(day, 0, 999)) return BAD;
        return dives.stream().filter(d -> (d.a == diver || d.b == diver) && d.moment / 1440 == day)
            .mapToInt(Dive::minutes).sum();
    }

    int soonest(int a, int b, int moment, int depth, int minutes) {
        if (badDive(a, b, moment, depth, minutes)) return BAD;
        for (int at = moment; at <= moment + 10080 && at < 1440000; at++) {
            if (whyDive(a, b, at, depth, minutes) == 0) return at;
        }
        return NONE;
    }

    // ---- rules

    int feed(int n, long bytes) {
        if (!in(n, 1, 8)) return BAD;
        if (tapeText.length() + n > 160) return FULL;
        for (int i = 0; i < n; i++) tapeText.append((char) (bytes >> 8 * i & 255));
        return tapeText.length();
    }

    int rule() {
        String text = tapeText.toString();
        tapeText.setLength(0);
        try {
            rule = new SlowRule(text).read();
            return rule.size();
        } catch (SlowRule.Fault fault) {
            return -100 - fault.place;
        }
    }

    long worth(int find, int day, int k) {
        if (!of(find, finds) || !in(day, 0, 999) || !of(k, rule)) return NO;
        Found f = finds.get(find);
        return rule.get(k).value(name -> switch (name) {
            case "kind" -> f.kind;
            case "size" -> f.size;
            case "layer" -> f.layer;
            case "x" -> f.square % 10;
            case "y" -> f.square / 10;
            default -> day;
        });
    }

    // ---- timbers

    int bond(int a, int b, int what) {
        if (!isTimber(a) || !isTimber(b) || a == b || !in(what, 0, 1)) return -1000;
        int bond = -1, shift = 0;
        for (int t = -50; t <= 50; t++) {
            int sum = 0;
            for (int p : finds.get(a).holes) {
                if (finds.get(b).holes.contains(p + t)) sum++;
            }
            if (sum > bond || sum == bond && Math.abs(t) < Math.abs(shift)) {
                bond = sum;
                shift = t;
            }
        }
        return what == 0 ? bond : shift;
    }

    int best(int timber) {
        if (!isTimber(timber)) return BAD;
        for (int bond = 8; bond > 1; bond--) {
            for (int other = 0; other < finds.size(); other++) {
                if (bond(timber, other, 0) == bond) return other;
            }
        }
        return NONE;
    }

    int joined(int timber) {
        if (!isTimber(timber)) return BAD;
        for (int other = 0; other < finds.size(); other++) {
            if (best(timber) == other && best(other) == timber) return other;
        }
        return NONE;
    }

    // ---- plans

    int task(int minutes, int worth) {
        if (!in(minutes, 1, 200) || !in(worth, 0, 999)) return BAD;
        if (tasks.size() == 9) return FULL;
        tasks.add(new Task(minutes, worth));
        return tasks.size() - 1;
    }

    int gang(int minutes) {
        if (!in(minutes, 0, 400)) return BAD;
        if (gangs.size() == 4) return FULL;
        gangs.add(minutes);
        return gangs.size() - 1;
    }

    private int planWorth;
    int[] planGangs;

    /** All PLANS in the order in which like ones are liked: the first one with the greatest WORTH. */
    private void tryAll(int task, int worth, int[] left, int[] trial) {
        if (task == tasks.size()) {
            if (worth > planWorth) {
                planWorth = worth;
                planGangs = trial.clone();
            }
            return;
        }
        for (int g = 0; g < left.length; g++) {
            if (tasks.get(task).minutes <= left[g]) {
                left[g] -= tasks.get(task).minutes;
                trial[task] = g;
                tryAll(task + 1, worth + tasks.get(task).worth, left, trial);
                left[g] += tasks.get(task).minutes;
            }
        }
        trial[task] = NONE;
        tryAll(task + 1, worth, left, trial);
    }

    int plan() {
        planWorth = -1;
        tryAll(0, 0, gangs.stream().mapToInt(g -> g).toArray(), new int[tasks.size()]);
        return planWorth;
    }

    int planned(int task) {
        if (!of(task, tasks)) return BAD;
        plan();
        return planGangs[task];
    }

    // ---- aboard

    int hatches(int bits) {
        if (!in(bits, 0, 30) || bits % 2 != 0) return BAD;
        int was = hatches;
        hatches = bits;
        return was;
    }

    int roll(int n) {
        if (!in(n, -9, 9)) return BAD;
        int was = roll;
        roll = n;
        return was;
    }

    List<Integer> ways(int find) {
        List<Integer> ways = new ArrayList<>();
        for (int deck = 0; deck <= 4; deck++) {
            for (int x = 0; x <= 9; x++) {
                int at = deck, lies = x, c = 0;
                while (at >= 1 && (hatches & 1 << at) != 0) {
                    at--;
                    c++;
                    lies += roll;
                }
                Found f = finds.get(find);
                if (lies == f.square % 10 && (c > 3 ? 3 : c) == f.layer) ways.add(10 * deck + x);
            }
        }
        return ways;
    }

    int stood(int find) {
        return of(find, finds) ? ways(find).size() : BAD;
    }

    int stoodAt(int find, int i) {
        if (!of(find, finds)) return BAD;
        return of(i, ways(find)) ? ways(find).get(i) : NONE;
    }

    int count(int what) {
        if (!in(what, 0, 12)) return BAD;
        int inField = (int) finds.stream().filter(f -> f.where.equals("field")).count();
        int out = 0;
        if (what == 12) for (boolean is : new Fit().out) out += is ? 1 : 0;
        return new int[] {marks.size(), tapes.size(), finds.size(), tanks.size(), divers, table.size(), dives.size(),
            tapeText.length(), rule.size(), tasks.size(), gangs.size(), inField, out}[what];
    }

    // ---- the host

    int sheet(int sheet, int sort, int n) {
        if (!in(sheet, 0, 3) || !in(sort, -1, 2) || sort >= 0 && n > 40) return BAD;
        try {
            sheets[sheet] = sort < 0 ? null : sort == 0 ? new byte[n] : sort == 1 ? new short[n] : new float[n];
            return 1;
        } catch (NegativeArraySizeException e) {
            return -14;
        }
    }

    int cell(int sheet, int i, int v) {
        if (!in(sheet, 0, 3) || !in(v, -40000, 40000)) return BAD;
        try {
            if (sheets[sheet] instanceof byte[] bytes) bytes[i] = (byte) v;
            else if (sheets[sheet] instanceof short[] shorts) shorts[i] = (short) v;
            else ((float[]) sheets[sheet])[i] = v / 2f;
            return 1;
        } catch (NullPointerException e) {
            return -11;
        } catch (ArrayIndexOutOfBoundsException e) {
            return -12;
        }
    }

    int none(int sheet, int i) {
        if (!in(sheet, 0, 3)) return BAD;
        try {
            ((float[]) sheets[sheet])[i] = Float.NaN;
            return 1;
        } catch (ClassCastException e) {
            return -13;
        } catch (NullPointerException e) {
            return -11;
        } catch (ArrayIndexOutOfBoundsException e) {
            return -12;
        }
    }

    int taken(int find, int k) {
        if (!in(k, 0, 5)) return BAD;
        if (!of(find, finds)) return -11;
        return isUnder(finds.get(find).kind, k) ? finds.get(find).square : -13;
    }
}
