import com.sun.management.ThreadMXBean;
import java.lang.management.ManagementFactory;
import java.util.function.IntConsumer;

/** All calls of one run live in one room, so what a new object and its calls make is small: no call makes rows anew. */
public final class RoomTest {
    private static final int CALLS = 512, NEW_OBJECT = 40_000, SMALL_CALL = 96;
    private static final ThreadMXBean BEAN = (ThreadMXBean) ManagementFactory.getThreadMXBean();

    private static int wrong = 0;
    private static WreckField x;

    private static long made() {
        return BEAN.getThreadAllocatedBytes(Thread.currentThread().getId());
    }

    private static void check(String name, long most, IntConsumer call) {
        call.accept(0);
        long before = made();
        for (int i = 1; i <= CALLS; i++) call.accept(i);
        long mean = (made() - before) / CALLS;
        if (mean > most) {
            wrong++;
            System.out.println(name + " makes " + mean + " bytes a call, " + most + " are let");
        }
    }

    private static void fill() {
        x = new WreckField();
        for (int i = 0; i < 8; i++) x.mark(600 * i - 2000, 37 * i * i, i < 2);
        for (int i = 0; i < 24; i++) x.tape(i % 8, (i + 1 + i / 8) % 8, 400 + 77 * i);
        for (int i = 0; i < 20; i++) {
            x.find(1, i, i % 4, 1 + i % 9);
            for (int k = 0; k < 8; k++) x.hole(i, (7 * i + 11 * k) % 100);
        }
        x.tank(0, 40);
        for (int i = 0; i < 6; i++) x.diver();
        x.row(90, 200, 1);
        for (int i = 0; i < 40; i++) x.dive(i % 6, (i + 1) % 6, 250 * i, 5, 3);
        for (int i = 0; i < 9; i++) x.task(40 + 13 * i, 100 - 3 * i);
        for (int i = 0; i < 4; i++) x.gang(100 + i);
    }

    private static void feedRule() {
        String text = "bar ((x + y) * 3 < day or not kind = 2 and -size < layer); bar day * day * day * day = 1; bar 0; bar x = 77;";
        for (int at = 0; at < text.length(); at++) x.feed(1, text.charAt(at));
        x.rule();
    }

    public static void main(String[] args) {
        check("new", NEW_OBJECT, i -> x = new WreckField());
        fill();
        check("bar, fit, sum, tapeTold, count", SMALL_CALL, i -> {
            x.bar(1 + 7 * i);
            x.fit(i % 8, 0);
            x.sum();
            x.tapeTold(i % 24, 4);
            x.count(12);
        });
        check("dive, cancel", SMALL_CALL, i -> {
            x.cancel();
            x.dive(0, 1, 100_000, 1, 1);
        });
        check("soonest", SMALL_CALL, i -> x.soonest(0, 1, 10 * i, 3, 20));
        check("feed, rule", SMALL_CALL, i -> feedRule());
        check("worth, why", SMALL_CALL, i -> {
            x.worth(i % 20, i, 0);
            x.why(i % 20, 0, i);
        });
        check("bond, best, joined", SMALL_CALL, i -> {
            x.bond(i % 20, 3, 1);
            x.best(i % 20);
            x.joined(i % 20);
        });
        check("plan, planned", SMALL_CALL, i -> {
            x.plan();
            x.planned(i % 9);
        });
        check("stood, stoodAt, findTold", SMALL_CALL, i -> {
            x.stood(i % 20);
            x.stoodAt(i % 20, 0);
            x.findTold(i % 20, 7);
        });
        check("sheet, cell, none, tapes", SMALL_CALL, i -> {
            x.sheet(i % 4, 2, 40);
            x.cell(i % 4, 5, i);
            x.none(i % 4, 4);
            x.tapes(i % 4, 3, 2);
        });
        System.out.println(wrong == 0 ? "the room is kept" : wrong + " kinds of calls make too much");
        if (wrong != 0) System.exit(1);
    }
}
