import java.lang.reflect.Method;
import java.lang.reflect.Modifier;
import java.util.ArrayList;
import java.util.Arrays;
import java.util.Comparator;
import java.util.List;
import java.util.Random;
import java.util.Set;
import java.util.stream.Collectors;

/** Random runs of calls, the same ones each time, on WreckField and on SlowField: every answer must be the same. */
public final class ModelTest {
    private static final int RUNS = 600, CALLS = 512;
    private static final String[] WORDS = {"kind", "size", "layer", "x", "y", "day", "bar", "or", "and", "not",
        "(", ")", ";", "+", "-", "*", "<", "=", " ", "\n", "7", "0", "9999", "12345", "bars", "A", "\u00e9"};

    private static final int[] BETWEEN = {7, 8, 13, 14, 15, 16, 17};
    private static final int[] EDGES = {Integer.MIN_VALUE, Integer.MIN_VALUE + 1, -40001, -40000, -5001, -5000, -32, -11, -10, -9, -3, -2,
        -1, 0, 1, 2, 3, 4, 5, 6, 7, 8, 9, 10, 19, 20, 23, 24, 30, 31, 32, 39, 40, 41, 89, 90, 91, 99, 100, 120, 121, 200, 201, 400, 401,
        998, 999, 1000, 1439, 1440, 1441, 5000, 5001, 15000, 15001, 40000, 40001, 1438560, 1439999, 1440000, Integer.MAX_VALUE - 2,
        Integer.MAX_VALUE - 1, Integer.MAX_VALUE};
    private static final Set<String> SLOW = Set.of("fit", "tapeTold", "sum", "count", "plan", "planned", "soonest");

    private final Random random;
    private final int flavour;
    private final WreckField quick = new WreckField();
    private final SlowField slow = new SlowField();
    private final StringBuilder calls = new StringBuilder();
    private int wrong = 0;
    private int made = 0;
    private int fitCalls = 0;
    private int soonestCalls = 0;
    private int planCalls = 0;

    private ModelTest(long seed) {
        random = new Random(seed);
        flavour = (int) (seed % 9);
    }

    private void due(String call, long got, long want) {
        calls.append(call).append(" = ").append(want).append('\n');
        // Behind the 512th call of an object every answer is free.
        if (++made <= CALLS && got != want) {
            wrong++;
            if (wrong == 1) System.out.println(calls + "  but it answered " + got);
        }
    }

    /** Mostly a number of the range, now and then one just outside or far from it. */
    private int n(int least, int most) {
        switch (random.nextInt(40)) {
            case 0: return least - 1;
            case 1: return most + 1;
            case 2: return random.nextBoolean() ? least : most;
            case 3: return random.nextInt(12) == 0 ? (random.nextBoolean() ? Integer.MIN_VALUE : Integer.MAX_VALUE) : least;
            default: return least + random.nextInt(most - least + 1);
        }
    }

    private int of(int size) {
        return n(0, Math.max(0, size - 1));
    }

    private int moment() {
        int near = random.nextInt(3);
        return near == 0 ? n(0, 3000) : near == 1 ? n(0, 12000) : n(1439000, 1439999);
    }

    private int minutes() {
        return random.nextInt(4) == 0 ? n(1, 200) : n(1, 30);
    }

    private int kind() {
        return flavour == 4 ? (random.nextInt(4) == 0 ? n(0, 5) : 1) : n(0, 5);
    }

    private boolean run() {
        for (int i = 0; i < CALLS && made < CALLS; i++) {
            // Most runs keep to one part of the face, so that its limits are reached.
            int part = flavour < 8 && random.nextInt(8) > 0 ? flavour : random.nextInt(8);
            call(part);
        }
        return wrong == 0;
    }

    private void call(int part) {
        switch (part) {
            case 0: callMarks(); break;
            case 1: callFinds(); break;
            case 2: callDives(); break;
            case 3: callRules(); break;
            case 4: callTimbers(); break;
            case 5: callPlans(); break;
            case 6: callAboard(); break;
            default: callSheets(); break;
        }
    }

    private void callMarks() {
        int a, b, c;
        switch (random.nextInt(12)) {
            case 0: case 1:
                a = n(-5000, 5000);
                b = random.nextInt(3) == 0 ? n(-5000, 5000) : n(-300, 300);
                boolean is = random.nextInt(3) == 0;
                due("mark(" + a + ", " + b + ", " + is + ")", quick.mark(a, b, is), slow.mark(a, b, is));
                break;
            case 2: case 3: case 4:
                a = of(slow.marks.size());
                b = of(slow.marks.size());
                c = random.nextInt(3) == 0 ? n(1, 15000) : n(1, 1500);
                due("tape(" + a + ", " + b + ", " + c + ")", quick.tape(a, b, c), slow.tape(a, b, c));
                break;
            case 5: case 6:
                a = random.nextInt(3) == 0 ? n(1, 15000) : n(1, 400);
                due("bar(" + a + ")", quick.bar(a), slow.bar(a));
                break;
            default:
                callFit();
        }
    }

    private void callFit() {
        // The slow one fits anew for each call.
        if (++fitCalls > 60) return;
        int a = of(slow.marks.size()), b = of(slow.tapes.size()), c = n(0, 4);
        switch (random.nextInt(4)) {
            case 0: due("fit(" + a + ", " + c % 3 + ")", quick.fit(a, c % 3), slow.fit(a, c % 3)); break;
            case 1: due("sum()", quick.sum(), slow.sum()); break;
            case 2: due("count(12)", quick.count(12), slow.count(12)); break;
            default: due("tapeTold(" + b + ", " + c + ")", quick.tapeTold(b, c), slow.tapeTold(b, c));
        }
    }

    private void callFinds() {
        int a = of(slow.finds.size()), b = of(slow.tanks.size()), c = n(0, 999), d;
        switch (random.nextInt(14)) {
            case 0: case 1: callFind(); break;
            case 2:
                d = kind();
                int room = n(1, 40);
                due("tank(" + d + ", " + room + ")", quick.tank(d, room), slow.tank(d, room));
                break;
            case 3: case 4: case 5:
                due("lift(" + a + ", " + b + ", " + c + ")", quick.lift(a, b, c), slow.lift(a, b, c));
                break;
            case 6: due("why(" + a + ", " + b + ", " + c + ")", quick.why(a, b, c), slow.why(a, b, c)); break;
            case 7:
                d = slow.findTold(a, 7);
                c = d >= 0 && d < 1000 && random.nextBoolean() ? d - random.nextInt(2) : c;
                due("take(" + a + ", " + c + ")", quick.take(a, c), slow.take(a, c));
                break;
            case 8: case 9:
                d = n(0, 3);
                due("tankTold(" + b + ", " + d + ")", quick.tankTold(b, d), slow.tankTold(b, d));
                break;
            case 10:
                d = n(0, 5);
                due("taken(" + a + ", " + d + ")", quick.taken(a, d), slow.taken(a, d));
                break;
            default:
                d = n(0, 7);
                due("findTold(" + a + ", " + d + ")", quick.findTold(a, d), slow.findTold(a, d));
        }
    }

    private void callFind() {
        int a = kind(), b = n(0, 99), c = n(0, 3), d = n(1, 9);
        due("find(" + a + ", " + b + ", " + c + ", " + d + ")", quick.find(a, b, c, d), slow.find(a, b, c, d));
    }

    private void callDives() {
        int a = of(slow.divers), b = of(slow.divers), c = moment(), d = n(1, 90), e = minutes();
        String told = "(" + a + ", " + b + ", " + c + ", " + d + ", " + e + ")";
        switch (random.nextInt(14)) {
            case 0: due("diver()", quick.diver(), slow.diver()); break;
            case 1:
                int most = n(1, 200), rest = random.nextInt(3) == 0 ? n(1, 1440) : n(1, 60);
                due("row(" + d + ", " + most + ", " + rest + ")", quick.row(d, most, rest), slow.row(d, most, rest));
                break;
            case 2: if (random.nextInt(3) == 0) due("cancel()", quick.cancel(), slow.cancel()); break;
            case 3: case 4:
                int day = random.nextInt(3) == 0 ? n(0, 999) : n(0, 8);
                due("under(" + a + ", " + day + ")", quick.under(a, day), slow.under(a, day));
                break;
            case 5:
                if (++soonestCalls > 40) return;
                due("soonest" + told, quick.soonest(a, b, c, d, e), slow.soonest(a, b, c, d, e));
                break;
            default: due("dive" + told, quick.dive(a, b, c, d, e), slow.dive(a, b, c, d, e));
        }
    }

    private void callRules() {
        int a = of(slow.finds.size()), b = n(0, 999), c = n(0, 5);
        switch (random.nextInt(6)) {
            case 0: callFind(); break;
            case 1: case 2:
                feedText(ruleText());
                due("rule()", quick.rule(), slow.rule());
                break;
            case 3:
                if (random.nextInt(4) == 0) feed(n(1, 8), random.nextLong());
                else due("count(7)", quick.count(7), slow.count(7));
                break;
            case 4:
                int tank = of(slow.tanks.size());
                due("why(" + a + ", " + tank + ", " + b + ")", quick.why(a, tank, b), slow.why(a, tank, b));
                break;
            default: due("worth(" + a + ", " + b + ", " + c + ")", quick.worth(a, b, c), slow.worth(a, b, c));
        }
    }

    private void feed(int n, long bytes) {
        due("feed(" + n + ", " + bytes + ")", quick.feed(n, bytes), slow.feed(n, bytes));
    }

    private void feedText(String text) {
        for (int at = 0; at < text.length(); ) {
            int n = Math.min(1 + random.nextInt(8), text.length() - at);
            long bytes = 0;
            for (int i = n - 1; i >= 0; i--) bytes = bytes << 8 | text.charAt(at + i) & 255;
            if (n < 8 && random.nextBoolean()) bytes |= random.nextLong() << 8 * n;
            feed(n, bytes);
            at += n;
        }
    }

    private String ruleText() {
        StringBuilder text = new StringBuilder();
        int bars = random.nextInt(4) == 0 ? 5 + random.nextInt(3) : random.nextInt(4);
        for (int i = 0; i < bars; i++) {
            text.append(blank()).append("bar ").append(expression(bars > 4 ? 1 : 4)).append(blank()).append(';');
        }
        if (random.nextInt(3) == 0) {
            int at = random.nextInt(text.length() + 1), to = Math.min(text.length(), at + random.nextInt(3));
            text.replace(at, to, WORDS[random.nextInt(WORDS.length)]);
        }
        if (random.nextInt(30) == 0) text.setLength(random.nextInt(text.length() + 1));
        if (random.nextInt(20) == 0) {
            text.setLength(0);
            for (int i = 0; i < 30; i++) text.append(WORDS[random.nextInt(WORDS.length)]).append(blank());
        }
        return text.toString();
    }

    private String blank() {
        return random.nextInt(3) > 0 ? "" : random.nextInt(4) == 0 ? "\n " : " ";
    }

    private String expression(int depth) {
        String a = depth == 0 ? WORDS[random.nextInt(6)] : expression(depth - 1 - random.nextInt(depth));
        switch (random.nextInt(depth == 0 ? 3 : 12)) {
            case 0: return a;
            case 1: return "" + random.nextInt(random.nextBoolean() ? 10 : 10000);
            case 2: return a;
            case 3: return "not " + a;
            case 4: return "-" + blank() + a;
            case 5: return "(" + blank() + a + ")";
            case 6: return "((" + a + "))";
            default: return a + " " + WORDS[BETWEEN[random.nextInt(BETWEEN.length)]] + " " + expression(depth - 1);
        }
    }

    private void callTimbers() {
        int a = of(slow.finds.size()), b = of(slow.finds.size()), c = n(0, 1), place;
        switch (random.nextInt(10)) {
            case 0: callFind(); break;
            case 1: case 2: case 3: case 4:
                place = random.nextInt(3) == 0 ? n(0, 99) : 7 * random.nextInt(15);
                due("hole(" + a + ", " + place + ")", quick.hole(a, place), slow.hole(a, place));
                break;
            case 5: case 6:
                due("bond(" + a + ", " + b + ", " + c + ")", quick.bond(a, b, c), slow.bond(a, b, c));
                break;
            case 7: due("best(" + a + ")", quick.best(a), slow.best(a)); break;
            default: due("joined(" + a + ")", quick.joined(a), slow.joined(a));
        }
    }

    private void callPlans() {
        int a = random.nextBoolean() ? n(1, 200) : n(1, 40), b = random.nextBoolean() ? n(0, 999) : n(0, 3);
        switch (random.nextInt(30)) {
            case 0: due("task(" + a + ", " + b + ")", quick.task(a, b), slow.task(a, b)); break;
            case 1:
                a = random.nextBoolean() ? n(0, 400) : n(0, 60);
                due("gang(" + a + ")", quick.gang(a), slow.gang(a));
                break;
            default:
                if (random.nextInt(4) > 0 || ++planCalls > 12) return;
                due("plan()", quick.plan(), slow.plan());
                a = of(slow.tasks.size());
                due("planned(" + a + ")", quick.planned(a), slow.planned(a));
        }
    }

    private void callAboard() {
        int a = of(slow.finds.size()), b;
        switch (random.nextInt(9)) {
            case 0: callFind(); break;
            case 1:
                b = random.nextInt(6) == 0 ? n(0, 31) : 2 * n(0, 15);
                due("hatches(" + b + ")", quick.hatches(b), slow.hatches(b));
                break;
            case 2:
                b = random.nextBoolean() ? n(-9, 9) : n(-2, 2);
                due("roll(" + b + ")", quick.roll(b), slow.roll(b));
                break;
            case 3:
                b = n(0, 11);
                due("count(" + b + ")", quick.count(b), slow.count(b));
                break;
            case 4: case 5: due("stood(" + a + ")", quick.stood(a), slow.stood(a)); break;
            default:
                b = n(0, 3);
                due("stoodAt(" + a + ", " + b + ")", quick.stoodAt(a, b), slow.stoodAt(a, b));
        }
    }

    private void callSheets() {
        int a = n(0, 3), b, c;
        switch (random.nextInt(12)) {
            case 0:
                b = random.nextBoolean() ? 2 : n(-1, 2);
                c = n(0, 40);
                due("sheet(" + a + ", " + b + ", " + c + ")", quick.sheet(a, b, c), slow.sheet(a, b, c));
                break;
            case 1: case 2: case 3: case 4: case 5: case 6: case 7:
                b = n(0, 11);
                c = b % 3 < 2 ? n(-1, 2 * slow.marks.size() + 1) : n(0, 40000);
                due("cell(" + a + ", " + b + ", " + c + ")", quick.cell(a, b, c), slow.cell(a, b, c));
                break;
            case 8:
                b = n(0, 11);
                due("none(" + a + ", " + b + ")", quick.none(a, b), slow.none(a, b));
                break;
            case 9:
                if (slow.marks.size() < 6) due("mark(0, 0, true)", quick.mark(0, 0, true), slow.mark(0, 0, true));
                break;
            default:
                b = random.nextBoolean() ? 0 : n(0, 11);
                c = n(0, 3);
                due("tapes(" + a + ", " + b + ", " + c + ")", quick.tapes(a, b, c), slow.tapes(a, b, c));
                b = of(slow.tapes.size());
                c = n(0, 2);
                due("tapeTold(" + b + ", " + c + ")", quick.tapeTold(b, c), slow.tapeTold(b, c));
        }
    }

    /** Every method with numbers at and beyond the edges of all ranges, in any state; no call may throw. */
    private boolean runExtremes() throws ReflectiveOperationException {
        List<Method> methods = new ArrayList<>();
        for (Method method : WreckField.class.getDeclaredMethods()) {
            if (Modifier.isPublic(method.getModifiers())) methods.add(method);
        }
        methods.sort(Comparator.comparing(Method::getName));
        for (int i = random.nextInt(200); i > 0; i--) call(random.nextInt(8));
        int slowCalls = 0;
        for (int i = 0; i < 300; i++) {
            Method method = methods.get(random.nextInt(methods.size()));
            if (SLOW.contains(method.getName()) && ++slowCalls > 20) continue;
            callExtreme(method);
        }
        return wrong == 0;
    }

    private void callExtreme(Method method) throws ReflectiveOperationException {
        Object[] numbers = new Object[method.getParameterCount()];
        for (int i = 0; i < numbers.length; i++) {
            Class<?> type = method.getParameterTypes()[i];
            if (type == boolean.class) numbers[i] = random.nextBoolean();
            else if (type == long.class) numbers[i] = random.nextLong();
            else numbers[i] = random.nextInt(3) == 0 ? random.nextInt(5) : EDGES[random.nextInt(EDGES.length)];
        }
        String call = Arrays.stream(numbers).map(String::valueOf).collect(Collectors.joining(", ", method.getName() + "(", ")"));
        Method twin = SlowField.class.getDeclaredMethod(method.getName(), method.getParameterTypes());
        due(call, ((Number) method.invoke(quick, numbers)).longValue(), ((Number) twin.invoke(slow, numbers)).longValue());
    }

    /** A field of many MARKS and TAPES that nearly fit, all of it asked for, under several BARS. */
    private boolean runFits() {
        int marks = 3 + random.nextInt(6), spread = 1 + random.nextInt(5000), amiss = 1 + random.nextInt(300);
        for (int i = 0; i < marks; i++) {
            int a = random.nextInt(2 * spread) - spread, b = random.nextInt(2 * spread) - spread;
            boolean is = random.nextInt(3) == 0;
            due("mark(" + a + ", " + b + ", " + is + ")", quick.mark(a, b, is), slow.mark(a, b, is));
        }
        int tapes = random.nextInt(25);
        for (int i = 0; i < tapes; i++) {
            int a = random.nextInt(marks), b = random.nextInt(marks);
            SlowField.Mark from = slow.marks.get(a), to = slow.marks.get(b);
            int c = (int) Math.hypot(from.x() - to.x(), from.y() - to.y()) + random.nextInt(amiss) - amiss / 2;
            due("tape(" + a + ", " + b + ", " + c + ")", quick.tape(a, b, c), slow.tape(a, b, c));
            if (random.nextInt(6) == 0) due("sum()", quick.sum(), slow.sum());
        }
        for (int i = 0; i < 4; i++) {
            int bar = 1 + random.nextInt(1 + amiss);
            due("bar(" + bar + ")", quick.bar(bar), slow.bar(bar));
            askFit();
        }
        return wrong == 0;
    }

    private void askFit() {
        SlowField.Fit fit = slow.new Fit();
        for (int m = 0; m < slow.marks.size(); m++) {
            due("fit(" + m + ", 0)", quick.fit(m, 0), fit.x[m]);
            due("fit(" + m + ", 1)", quick.fit(m, 1), fit.y[m]);
        }
        for (int t = 0; t < slow.tapes.size(); t++) {
            due("tapeTold(" + t + ", 3)", quick.tapeTold(t, 3), fit.out[t] ? 1 : 0);
            due("tapeTold(" + t + ", 4)", quick.tapeTold(t, 4), fit.miss(t));
        }
    }

    /** TASKS and GANGS, and the whole of THE PLAN as they come. */
    private boolean runPlans() {
        int tasks = random.nextInt(20) == 0 ? 9 : random.nextInt(8), gangs = random.nextInt(5);
        int longest = random.nextBoolean() ? 200 : 12, dear = random.nextBoolean() ? 1000 : 3;
        for (int left = tasks + gangs; left > 0; left--) {
            if (random.nextInt(left) < tasks) {
                int a = 1 + random.nextInt(longest), b = random.nextInt(dear);
                due("task(" + a + ", " + b + ")", quick.task(a, b), slow.task(a, b));
                tasks--;
            } else {
                int a = random.nextInt(2 * longest + 1);
                due("gang(" + a + ")", quick.gang(a), slow.gang(a));
                gangs--;
            }
            if (left < 3) askPlan();
        }
        return wrong == 0;
    }

    private void askPlan() {
        due("plan()", quick.plan(), slow.plan());
        for (int t = 0; t < slow.tasks.size(); t++) due("planned(" + t + ")", quick.planned(t), slow.planGangs[t]);
    }

    public static void main(String[] args) throws ReflectiveOperationException {
        int wrongRuns = 0;
        for (int seed = 0; seed < RUNS; seed++) {
            if (!new ModelTest(seed).run()) wrongRuns++;
            if (!new ModelTest(seed).runFits()) wrongRuns++;
            if (!new ModelTest(seed).runPlans()) wrongRuns++;
            if (!new ModelTest(seed).runExtremes()) wrongRuns++;
        }
        System.out.println(wrongRuns == 0 ? 4 * RUNS + " runs are as the slow model has them" : wrongRuns + " runs are not");
        if (wrongRuns != 0) System.exit(1);
    }
}
