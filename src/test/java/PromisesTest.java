/** For each promise of the document: ordinary calls, the edges that it names, and wrong ones, with the answers that are due. */
public final class PromisesTest {
    private static final long NO = -4611686018427387904L;
    private static final int NONE = -1, BAD = -2, STATE = -3, FULL = -4, LOW = Integer.MIN_VALUE, HIGH = Integer.MAX_VALUE;

    private int promise;
    private int row;
    private int wrong;
    private WreckField x;

    private void begin(int number) {
        promise = number;
        row = 0;
        x = new WreckField();
    }

    private void anew() {
        x = new WreckField();
    }

    private void due(long got, long want) {
        row++;
        if (got != want) {
            wrong++;
            System.out.println("promise " + promise + ", row " + row + ": answered " + got + ", due is " + want);
        }
    }

    private void bad(long... answers) {
        for (long answer : answers) due(answer, BAD);
    }

    private void no(long... answers) {
        for (long answer : answers) due(answer, NO);
    }

    /** By eights: what an object answers behind its 512th call is free. */
    private void feed(String text) {
        for (int at = 0; at < text.length(); at += 8) {
            int n = Math.min(8, text.length() - at);
            long bytes = 0;
            for (int i = n - 1; i >= 0; i--) bytes = bytes << 8 | text.charAt(at + i) & 255;
            x.feed(n, bytes);
        }
    }

    private int rule(String text) {
        feed(text);
        return x.rule();
    }

    private void divers(int n) {
        for (int i = 0; i < n; i++) x.diver();
    }

    private void marks(int n) {
        for (int i = 0; i < n; i++) x.mark(1000 * i, 0, true);
    }

    private void holes(int timber, int... places) {
        for (int place : places) x.hole(timber, place);
    }

    private void floats(int sheet, int... halves) {
        x.sheet(sheet, 2, halves.length);
        for (int i = 0; i < halves.length; i++) x.cell(sheet, i, halves[i]);
    }

    private void promise1() {
        begin(1);
        for (int what = 0; what <= 12; what++) due(x.count(what), 0);
        due(x.sum(), 0);
        due(x.bar(7), 100);
        due(x.hatches(0), 0);
        due(x.roll(0), 0);
        due(x.plan(), 0);
        due(x.cancel(), STATE);
        for (int sheet = 0; sheet < 4; sheet++) due(x.tapes(sheet, 0, 0), -11);
        x.mark(1, 2, false);
        anew();
        due(x.count(0), 0);
        due(WreckField.NONE, -1);
        due(WreckField.BAD, -2);
        due(WreckField.STATE, -3);
        due(WreckField.FULL, -4);
        due(WreckField.NO, -4611686018427387904L);
    }

    private void promise2() {
        begin(2);
        due(x.mark(-5000, 5000, false), 0);
        due(x.mark(5000, -5000, true), 1);
        bad(x.mark(-5001, 0, true), x.mark(5001, 0, true), x.mark(0, -5001, true), x.mark(0, 5001, true));
        bad(x.mark(LOW, 0, true), x.mark(0, HIGH, true));
        for (int i = 2; i < 8; i++) due(x.mark(0, 0, true), i);
        due(x.mark(0, 0, true), FULL);
        due(x.mark(0, 5001, true), BAD);
        due(x.count(0), 8);
    }

    private void promise3() {
        begin(3);
        bad(x.tape(0, 1, 5));
        marks(2);
        due(x.tape(0, 1, 1), 0);
        due(x.tape(1, 0, 15000), 1);
        bad(x.tape(0, 0, 5), x.tape(0, 2, 5), x.tape(2, 0, 5), x.tape(-1, 0, 5), x.tape(0, -1, 5));
        bad(x.tape(0, 1, 0), x.tape(0, 1, 15001), x.tape(0, 1, LOW), x.tape(HIGH, 1, 5));
        for (int i = 2; i < 24; i++) due(x.tape(0, 1, i), i);
        due(x.tape(0, 1, 5), FULL);
        due(x.tape(1, 1, 5), BAD);
        due(x.count(1), 24);
    }

    private void promise4() {
        begin(4);
        marks(3);
        floats(0, 0, 2, 1001, -1, 5, 3, 2, 4, 100);
        due(x.tapes(0, 0, 3), 3);
        due(x.tapeTold(0, 2), 500);
        due(x.tapeTold(1, 0), 0);
        due(x.tapeTold(1, 1), 2);
        due(x.tapeTold(1, 2), 1);
        bad(x.tapes(-1, 0, 0), x.tapes(4, 0, 0), x.tapes(0, 0, -1), x.tapes(1, 0, -1));
        due(x.tapes(1, 0, 1), -11);
        x.sheet(1, 0, 9);
        due(x.tapes(1, 0, 1), -13);
        x.sheet(1, 1, 9);
        due(x.tapes(1, 50, 0), -13);
        due(x.tapes(0, 99, 0), 3);
        due(x.tapes(0, -1, 1), -12);
        due(x.tapes(0, LOW, 1), -12);
        due(x.tapes(0, HIGH, 1), -12);
        due(x.tapes(0, HIGH - 1, HIGH), -12);
        due(x.tapes(0, 9, 1), -12);
        due(x.count(1), 3);
        due(x.tapes(0, 3, HIGH), -12);
        due(x.count(1), 5);
        x.none(0, 3);
        due(x.tapes(0, 0, 3), 7);
        floats(0, 0, 2, 100, 0, 0, 100, 0, 2, 100);
        due(x.tapes(0, 0, 3), BAD);
        due(x.count(1), 8);
        x.none(0, 4);
        due(x.tapes(0, 0, 3), 10);
        floats(0, 0, -2, 100);
        due(x.tapes(0, 0, 1), BAD);
        floats(0, 0, 2, 1);
        due(x.tapes(0, 0, 1), BAD);
        floats(0, 0, 2, 30001);
        due(x.tapes(0, 0, 1), 11);
        floats(0, 0, 2, 30002);
        due(x.tapes(0, 0, 1), BAD);
        for (int i = 11; i < 23; i++) x.tape(0, 1, 1000);
        floats(2, 0, 2, 100, 0, 2, 100, 0, 0, 100, 7, 7, 7);
        due(x.tapes(2, 0, 2), FULL);
        due(x.count(1), 24);
        due(x.tapes(2, 6, 1), BAD);
        due(x.tapes(2, 9, 1), BAD);
        due(x.tapes(2, 10, 1), -12);
        x.none(2, 11);
        due(x.tapes(2, 9, 1), 24);
        due(x.tapes(2, 9, 2), -12);
    }

    private void promise5() {
        begin(5);
        due(x.bar(1), 100);
        due(x.bar(15000), 1);
        bad(x.bar(0), x.bar(15001), x.bar(-5), x.bar(LOW));
        due(x.bar(100), 15000);
        marks(2);
        x.tape(0, 1, 1100);
        due(x.count(12), 0);
        x.bar(99);
        due(x.count(12), 1);
    }

    private void promise6() {
        begin(6);
        no(x.fit(0, 0));
        x.mark(7, -9, false);
        due(x.fit(0, 0), 7);
        due(x.fit(0, 1), -9);
        no(x.fit(0, 2), x.fit(0, -1), x.fit(1, 0), x.fit(-1, 0), x.fit(LOW, 0));
        // Of like places the one with the least X: the first step reaches four of them.
        anew();
        x.mark(0, 0, true);
        x.mark(0, 0, false);
        x.tape(0, 1, 512);
        due(x.fit(1, 0), -512);
        due(x.fit(1, 1), 0);
        due(x.sum(), 0);
        // A FIXED MARK stays; a place may lie beyond 5000.
        anew();
        x.mark(5000, 600, true);
        x.mark(5000, 0, false);
        x.mark(5000, -600, true);
        x.mark(4000, 0, true);
        x.tape(0, 1, 1000);
        x.tape(2, 1, 1000);
        x.tape(1, 3, 1800);
        due(x.fit(0, 0), 5000);
        due(x.fit(0, 1), 600);
        due(x.fit(1, 0), 5800);
        due(x.fit(1, 1), 0);
        due(x.sum(), 0);
        // Out of reach: 4 times all steps is 4092.
        anew();
        x.mark(-5000, 0, true);
        x.mark(5000, 0, false);
        x.tape(0, 1, 1);
        x.bar(15000);
        due(x.fit(1, 0), 908);
        due(x.tapeTold(0, 4), 5907);
        // An OUT TAPE does not pull.
        x.bar(5906);
        due(x.fit(1, 0), 5000);
        due(x.tapeTold(0, 4), 9999);
        x.bar(5907);
        due(x.fit(1, 0), 908);
    }

    private void promise7() {
        begin(7);
        no(x.tapeTold(0, 0));
        x.mark(0, 0, true);
        x.mark(3, 3, true);
        x.tape(1, 0, 7);
        due(x.tapeTold(0, 0), 1);
        due(x.tapeTold(0, 1), 0);
        due(x.tapeTold(0, 2), 7);
        due(x.tapeTold(0, 3), 0);
        due(x.tapeTold(0, 4), -3);
        no(x.tapeTold(0, 5), x.tapeTold(0, -1), x.tapeTold(1, 0), x.tapeTold(-1, 0), x.tapeTold(HIGH, 4));
        x.bar(2);
        due(x.tapeTold(0, 3), 1);
        due(x.tapeTold(0, 4), -3);
        // Of like MISSES the one with the least number goes OUT; by size, not by sign.
        anew();
        x.mark(0, 0, true);
        x.mark(1000, 0, true);
        x.tape(0, 1, 900);
        x.tape(0, 1, 1150);
        x.tape(0, 1, 850);
        x.bar(149);
        due(x.tapeTold(0, 3), 0);
        due(x.tapeTold(1, 3), 1);
        due(x.tapeTold(2, 3), 1);
        x.bar(150);
        due(x.count(12), 0);
        // All of them OUT, all of them at one MARK.
        anew();
        x.mark(0, 0, true);
        x.mark(300, 400, false);
        for (int i = 0; i < 24; i++) x.tape(i % 2, 1 - i % 2, 1 + 600 * i);
        x.bar(1);
        due(x.count(12), 23);
        due(x.sum(), 0);
        anew();
        x.mark(0, 0, true);
        x.mark(300, 400, true);
        for (int i = 0; i < 24; i++) x.tape(i % 2, 1 - i % 2, 510 + i);
        x.bar(9);
        due(x.count(12), 24);
        due(x.tapeTold(0, 4), -10);
        due(x.fit(1, 1), 400);
        x.bar(10);
        due(x.count(12), 23);
        due(x.tapeTold(0, 3), 0);
        due(x.tapeTold(1, 3), 1);
        x.bar(33);
        due(x.count(12), 0);
    }

    private void promise8() {
        begin(8);
        x.mark(-5000, -5000, true);
        x.mark(5000, 5000, true);
        due(x.sum(), 0);
        x.tape(0, 1, 14000);
        x.tape(0, 1, 15000);
        x.bar(1000);
        due(x.sum(), 142L * 142 + 858L * 858);
        x.bar(857);
        due(x.sum(), 142L * 142);
        x.bar(100);
        due(x.sum(), 0);
        x.bar(15000);
        for (int i = 2; i < 24; i++) x.tape(1, 0, 1);
        due(x.sum(), 142L * 142 + 858L * 858 + 22L * 14141 * 14141);
    }

    private void promise9() {
        begin(9);
        due(x.find(0, 0, 0, 1), 0);
        due(x.find(5, 99, 3, 9), 1);
        bad(x.find(-1, 0, 0, 1), x.find(6, 0, 0, 1), x.find(0, -1, 0, 1), x.find(0, 100, 0, 1));
        bad(x.find(0, 0, -1, 1), x.find(0, 0, 4, 1), x.find(0, 0, 0, 0), x.find(0, 0, 0, 10));
        for (int i = 2; i < 20; i++) due(x.find(1, i, 0, 1), i);
        due(x.find(1, 0, 0, 1), FULL);
        due(x.find(1, 0, 0, 0), BAD);
        due(x.count(2), 20);
    }

    private void promise10() {
        begin(10);
        x.find(1, 0, 0, 1);
        x.find(2, 0, 0, 1);
        x.find(0, 0, 0, 1);
        due(x.hole(0, 99), 1);
        due(x.hole(0, 0), 2);
        due(x.hole(0, 99), STATE);
        bad(x.hole(1, 5), x.hole(2, 5), x.hole(3, 5), x.hole(-1, 5), x.hole(0, -1), x.hole(0, 100));
        for (int i = 3; i <= 8; i++) due(x.hole(0, i), i);
        due(x.hole(0, 50), FULL);
        due(x.hole(0, 8), STATE);
        due(x.hole(0, 100), BAD);
        due(x.findTold(0, 4), 8);
    }

    private void promise11() {
        begin(11);
        bad(x.findTold(0, 0));
        x.find(4, 57, 3, 9);
        long[] told = {4, 57, 3, 9, 0, NONE, NONE, NONE};
        for (int what = 0; what < 8; what++) due(x.findTold(0, what), told[what]);
        bad(x.findTold(0, 8), x.findTold(0, -1), x.findTold(1, 0), x.findTold(-1, 0));
        x.tank(0, 40);
        x.tank(4, 9);
        x.lift(0, 1, 999);
        due(x.findTold(0, 5), 1);
        due(x.findTold(0, 6), 999);
        due(x.findTold(0, 7), 999 + 630);
        int[] weeks = {4, 8, 6, 2, 10, 1};
        for (int kind = 0; kind < 6; kind++) {
            int find = x.find(kind, 0, 0, 2);
            x.lift(find, 0, 0);
            due(x.findTold(find, 7), 14 * weeks[kind]);
        }
        x.take(1, 56);
        due(x.findTold(1, 5), NONE);
        due(x.findTold(1, 6), NONE);
        due(x.findTold(1, 7), NONE);
        due(x.findTold(1, 3), 2);
    }

    private void promise12() {
        begin(12);
        due(x.tank(0, 1), 0);
        due(x.tank(5, 40), 1);
        bad(x.tank(-1, 5), x.tank(6, 5), x.tank(0, 0), x.tank(0, 41), x.tank(LOW, HIGH));
        for (int i = 2; i < 6; i++) due(x.tank(1, 1), i);
        due(x.tank(1, 1), FULL);
        due(x.tank(1, 0), BAD);
        due(x.count(3), 6);
    }

    private void promise13() {
        begin(13);
        bad(x.tankTold(0, 0));
        x.tank(3, 10);
        x.find(5, 0, 0, 2);
        x.find(3, 0, 0, 3);
        due(x.tankTold(0, 0), 3);
        due(x.tankTold(0, 1), 10);
        due(x.tankTold(0, 2), 0);
        due(x.tankTold(0, 3), 0);
        x.lift(0, 0, 0);
        x.lift(1, 0, 0);
        due(x.tankTold(0, 2), 5);
        due(x.tankTold(0, 3), 2);
        x.take(0, 14);
        due(x.tankTold(0, 2), 3);
        due(x.tankTold(0, 3), 1);
        bad(x.tankTold(0, 4), x.tankTold(0, -1), x.tankTold(1, 0), x.tankTold(-1, 0));
    }

    private void promise14() {
        begin(14);
        bad(x.lift(0, 0, 0));
        x.find(5, 0, 0, 9);
        x.find(3, 0, 0, 2);
        x.find(1, 0, 0, 1);
        x.tank(3, 10);
        bad(x.lift(3, 0, 0), x.lift(-1, 0, 0), x.lift(0, 1, 0), x.lift(0, -1, 0), x.lift(0, 0, -1), x.lift(0, 0, 1000));
        due(x.lift(0, 0, 999), 1);
        due(x.lift(0, 0, 0), -21);
        due(x.lift(1, 0, 0), -23);
        due(x.lift(2, 0, 0), -22);
        due(x.count(11), 2);
        x.find(5, 0, 0, 1);
        due(x.lift(3, 0, 5), 1);
        due(x.tankTold(0, 2), 10);
        x.tank(0, 40);
        due(rule("bar 0; bar 0; bar 0; bar 0; bar 0; bar day = 7;"), 6);
        due(x.lift(2, 1, 7), -29);
        due(x.lift(2, 1, 8), 1);
        due(x.findTold(2, 6), 8);
        due(x.lift(2, 1, 7), -21);
    }

    private void promise15() {
        begin(15);
        bad(x.why(0, 0, 0));
        x.find(5, 0, 0, 3);
        int[] kinds = {0, 1, 2, 3, 4, 5};
        for (int kind : kinds) x.tank(kind, 3);
        long[] due = {0, 2, 2, 0, 2, 0};
        for (int kind : kinds) due(x.why(0, kind, 0), due[kind]);
        bad(x.why(1, 0, 0), x.why(0, 6, 0), x.why(0, 0, -1), x.why(0, 0, 1000));
        rule("bar 0; bar size = 3; bar 1;");
        due(x.why(0, 0, 0), 5);
        due(x.why(0, 1, 0), 2);
        x.find(3, 0, 0, 2);
        due(x.why(1, 0, 0), 6);
        rule("");
        due(x.why(1, 0, 0), 0);
        due(x.lift(1, 0, 0), 1);
        due(x.why(1, 1, 0), 1);
        due(x.why(0, 0, 0), 3);
        x.take(1, 28);
        due(x.why(1, 0, 0), 1);
        due(x.why(0, 0, 0), 0);
        due(x.count(11), 1);
    }

    private void promise16() {
        begin(16);
        bad(x.take(0, 0));
        x.find(2, 0, 0, 1);
        x.tank(2, 5);
        due(x.take(0, 999), STATE);
        x.lift(0, 0, 10);
        due(x.take(0, 51), STATE);
        due(x.take(0, 0), STATE);
        bad(x.take(0, -1), x.take(0, 1000), x.take(1, 5), x.take(-1, 5));
        due(x.take(0, 52), 1);
        due(x.take(0, 52), STATE);
        due(x.count(11), 0);
        due(x.count(2), 1);
        due(x.tankTold(0, 3), 0);
    }

    private void promise17() {
        begin(17);
        for (int i = 0; i < 6; i++) due(x.diver(), i);
        due(x.diver(), FULL);
        due(x.count(4), 6);
    }

    private void promise18() {
        begin(18);
        due(x.row(90, 200, 1440), 1);
        due(x.row(1, 1, 1), 2);
        due(x.row(90, 5, 5), 2);
        bad(x.row(0, 1, 1), x.row(91, 1, 1), x.row(1, 0, 1), x.row(1, 201, 1), x.row(1, 1, 0), x.row(1, 1, 1441));
        for (int i = 3; i <= 8; i++) due(x.row(10 * (11 - i), i, 1), i);
        due(x.row(2, 1, 1), FULL);
        due(x.row(2, 0, 1), BAD);
        due(x.row(1, 9, 1), 8);
        divers(2);
        // The first ROW with that DEPTH or a greater one: 1, 30, 40 .. 80 and 90.
        due(x.dive(0, 1, 0, 1, 9), 0);
        due(x.dive(0, 1, 5000, 2, 9), -22);
        due(x.dive(0, 1, 5000, 30, 8), 1);
        due(x.dive(0, 1, 10000, 31, 8), -22);
        due(x.dive(0, 1, 10000, 90, 5), 2);
        due(x.dive(0, 1, 20000, 90, 6), -22);
    }

    private void promise19() {
        begin(19);
        divers(4);
        bad(x.dive(0, 0, 0, 1, 1), x.dive(0, 4, 0, 1, 1), x.dive(-1, 0, 0, 1, 1), x.dive(0, 1, -1, 1, 1));
        bad(x.dive(0, 1, 1440000, 1, 1), x.dive(0, 1, 0, 0, 1), x.dive(0, 1, 0, 91, 1), x.dive(0, 1, 0, 1, 0));
        bad(x.dive(0, 1, 0, 1, 201), x.dive(LOW, HIGH, LOW, HIGH, LOW));
        due(x.dive(0, 1, 0, 1, 1), -21);
        x.row(50, 200, 100);
        x.row(10, 200, 10);
        due(x.dive(0, 1, 0, 51, 1), -21);
        due(x.dive(0, 1, 0, 1, 121), -25);
        due(x.dive(0, 1, 1000, 10, 50), 0);
        due(x.dive(2, 0, 1050, 10, 1), -23);
        due(x.dive(1, 2, 990, 10, 10), -23);
        due(x.dive(2, 3, 1000, 10, 20), 1);
        due(x.dive(1, 2, 1051, 10, 1), -24);
        due(x.dive(1, 0, 1059, 10, 1), -24);
        // The former one's REST counts: 10 behind a DIVE to 10, 100 ahead of it for one to 11.
        due(x.dive(1, 0, 1060, 50, 1), 2);
        due(x.dive(0, 1, 898, 50, 3), -24);
        due(x.dive(0, 1, 898, 50, 2), 3);
        due(x.dive(0, 2, 700, 10, 68), -25);
        due(x.dive(0, 3, 700, 10, 67), 4);
        due(x.dive(0, 2, 500, 10, 1), -25);
        due(x.dive(0, 2, 1439, 10, 1), -25);
        due(x.dive(0, 2, 1440, 10, 120), 5);
        due(x.dive(0, 2, 1439999, 10, 120), 6);
        // The REST is the one that THE TABLE has now.
        anew();
        divers(3);
        x.row(20, 60, 500);
        due(x.dive(0, 1, 0, 5, 10), 0);
        due(x.dive(0, 1, 100, 5, 10), -24);
        x.row(5, 60, 90);
        due(x.dive(0, 1, 99, 5, 10), -24);
        due(x.dive(0, 1, 100, 5, 10), 1);
        // A DIVE that meets comes ahead of one that rests, whichever of both DIVERS it is.
        due(x.dive(2, 1, 105, 5, 1), -23);
        // FULL stands behind WHY.
        anew();
        divers(2);
        x.row(90, 1, 1);
        for (int i = 0; i < 40; i++) due(x.dive(0, 1, 10 * i, 1, 1), i);
        due(x.dive(0, 1, 0, 1, 1), -23);
        due(x.dive(0, 1, 500, 1, 2), -22);
        due(x.dive(0, 1, 500, 1, 1), FULL);
        due(x.dive(0, 1, 500, 0, 1), BAD);
        due(x.count(6), 40);
    }

    private void promise20() {
        begin(20);
        due(x.cancel(), STATE);
        divers(2);
        x.row(9, 9, 9);
        x.dive(0, 1, 0, 1, 1);
        x.dive(0, 1, 100, 1, 1);
        due(x.cancel(), 1);
        due(x.under(0, 0), 1);
        due(x.dive(0, 1, 100, 1, 1), 1);
        due(x.cancel(), 1);
        due(x.cancel(), 0);
        due(x.cancel(), STATE);
        due(x.dive(0, 1, 0, 1, 1), 0);
    }

    private void promise21() {
        begin(21);
        bad(x.under(0, 0));
        divers(3);
        x.row(9, 100, 1);
        x.dive(0, 1, 1439, 1, 60);
        x.dive(2, 0, 1600, 1, 30);
        due(x.under(0, 0), 60);
        due(x.under(1, 0), 60);
        due(x.under(2, 0), 0);
        due(x.under(0, 1), 30);
        due(x.under(1, 1), 0);
        due(x.under(0, 999), 0);
        bad(x.under(3, 0), x.under(-1, 0), x.under(0, -1), x.under(0, 1000));
    }

    private void promise22() {
        begin(22);
        divers(3);
        bad(x.soonest(0, 0, 0, 1, 1), x.soonest(0, 3, 0, 1, 1), x.soonest(0, 1, -1, 1, 1));
        bad(x.soonest(0, 1, 1440000, 1, 1), x.soonest(0, 1, 0, 0, 1), x.soonest(0, 1, 0, 1, 201));
        due(x.soonest(0, 1, 0, 1, 1), NONE);
        x.row(10, 200, 30);
        x.row(20, 50, 1440);
        due(x.soonest(0, 1, 0, 11, 51), NONE);
        due(x.soonest(0, 1, 77, 10, 120), 77);
        due(x.soonest(0, 1, 77, 10, 121), NONE);
        due(x.soonest(0, 1, 1439999, 10, 120), 1439999);
        x.dive(0, 1, 100, 10, 100);
        due(x.soonest(0, 2, 40, 10, 30), 1440);
        due(x.soonest(0, 2, 40, 10, 20), 40);
        due(x.soonest(0, 2, 51, 10, 20), 230);
        due(x.soonest(2, 1, 51, 10, 21), 1440);
        // A REST of its own ROW ahead of a DIVE that comes later.
        due(x.soonest(0, 2, 0, 20, 10), 230);
        x.dive(0, 1, 1700, 10, 120);
        due(x.soonest(0, 2, 0, 20, 10), 230);
        due(x.soonest(0, 2, 251, 20, 10), 2880);
        // No later than 10080 behind: with a full week of DAYS the 8th begins in time for 0, as day 7 does.
        anew();
        divers(2);
        x.row(10, 120, 1);
        for (int day = 0; day < 7; day++) x.dive(0, 1, 1440 * day + 5, 10, 120);
        due(x.soonest(0, 1, 0, 10, 1), 10080);
        due(x.soonest(0, 1, 1, 10, 1), 10080);
        x.dive(0, 1, 10080, 10, 120);
        due(x.soonest(0, 1, 0, 10, 1), NONE);
        due(x.soonest(0, 1, 1439, 10, 1), NONE);
        due(x.soonest(0, 1, 1440, 10, 1), 11520);
        // The last MOMENT of all.
        x.dive(0, 1, 1439000, 10, 120);
        due(x.soonest(0, 1, 1439500, 10, 1), NONE);
        due(x.count(6), 9);
        // FULL does not matter.
        anew();
        divers(2);
        x.row(90, 1, 1);
        for (int i = 0; i < 40; i++) x.dive(0, 1, 2 * i, 1, 1);
        due(x.soonest(0, 1, 0, 1, 1), 80);
    }

    private void promise23() {
        begin(23);
        bad(x.feed(0, 1), x.feed(9, 1), x.feed(-1, 1), x.feed(LOW, 1), x.feed(HIGH, 1));
        due(x.feed(8, -1), 8);
        due(x.rule(), -100);
        // "bar 1;", the lowest byte first, with bytes above that are not taken.
        due(x.feed(6, 0x77773b3120726162L), 6);
        due(x.rule(), 1);
        for (int i = 1; i <= 19; i++) due(x.feed(8, 0x2020202020202020L), 8 * i);
        due(x.feed(7, 0x20202020202020L), 159);
        due(x.feed(2, 0x2020), FULL);
        due(x.count(7), 159);
        due(x.feed(1, 0x21), 160);
        due(x.feed(1, 0x20), FULL);
        due(x.feed(0, 0x20), BAD);
        due(x.rule(), -259);
    }

    private void promise24() {
        begin(24);
        due(x.rule(), 0);
        due(rule("bar 1;bar2;\nbar\n3 ; "), 3);
        due(x.count(8), 3);
        due(x.count(7), 0);
        due(rule("bar 1"), -105);
        due(x.count(7), 0);
        due(x.count(8), 3);
        due(rule(" \n "), 0);
        due(x.count(8), 0);
        due(rule("bar 1;bar 1;bar 1;bar 1;bar 1;bar 1;"), 6);
        due(rule("bar 1;bar 1;bar 1;bar 1;bar 1;bar 1; bar 1;"), -137);
        faults("bar", 3, "bar ", 4, "bar ;", 4, "1", 0, ";", 0, "bar 1;;", 6, "bar bar", 4, "bar 1 bar", 6);
        faults("bar 1 1;", 6, "bar kind size;", 9, "bar 12345;", 4, "bar 1234 + 56789;", 11, "bar 0000;", -1);
        faults("bar layerx;", 4, "bar foo;", 4, "bar Kind;", 4, "bar kin;", 4, "Bar 1;", 0, "bar 1 > 2;", 6, "bar 1,", 5);
        faults("bar 1 < 2 < 3;", 10, "bar 1 = 2 = 3;", 10, "bar (1 < 2) < 3;", -1, "bar 1 + not 2;", 8, "bar - not 2;", 6);
        faults("bar not not 2;", -1, "bar (1;", 6, "bar 1);", 5, "bar ();", 5, "bar 1 or;", 8, "bar 1 and or 2;", 10);
        faults("bar + 1;", 4, "bar * 1;", 4, "bar 1 - - 1;", -1, "bar 1 * -1;", -1, "bar 1--1;", -1, "bar 1\t;", 5);
        faults("barkind;", 0, "bar1or2and3;", -1, "bar x1;", 5, "bar 1x;", 5, "bar y or(x)and not day;", -1);
        faults("bar (((((1)))));", -1, "bar ((((((1))))));", 9, "bar -----1;", -1, "bar ------1;", 9, "bar - - - - -x+-1;", -1);
        faults("bar not not not not not 1;", -1, "bar not not not not not not 1;", 24, "bar not not(-(-(1)));", 14);
        faults("bar not not(-(1));", -1, "bar not not not (1 < -2) ;", -1, "bar not not not (1 < -(2)) ;", 22);
        faults("bar not not not not 1 < -2;", -1, "bar not not not not not 1 < -2;", 28, "bar not not not not not 1 and -2;", -1);
        faults("bar (1)+(2)*(3)-(4)+(5)+(6)+(7);", -1, "bar -1*-1*-1*-1*-1*-1*-1;", -1, "bar ((((-(1)))));", 9);
        faults("bar ((((-1*(1)))));", -1, "bar ((((-1+(1)))));", -1, "bar \u00e9;", 4, "\u0000", 0, "bar 1; \u00ff", 7, "bar 1 % 123456", 6);
        faults("bar not", 7, "bar 1 <", 7, "bar 1 < ;", 8, "bar 1 + ;", 8, "bar -", 5, "bar (", 5, "bar (1 ) ", 9, "bar or;", 4);
    }

    /** Pairs of a text and the place of its FAULT; -1: it is a RULE of one bar. */
    private void faults(Object... pairs) {
        for (int i = 0; i < pairs.length; i += 2) {
            int place = (Integer) pairs[i + 1];
            due(rule((String) pairs[i]), place < 0 ? 1 : -100 - place);
        }
    }

    private void promise25() {
        begin(25);
        no(x.worth(0, 0, 0));
        x.find(4, 73, 2, 8);
        no(x.worth(0, 0, 0));
        due(rule("bar kind; bar size; bar layer; bar x; bar y; bar day;"), 6);
        long[] told = {4, 8, 2, 3, 7, 999};
        for (int k = 0; k < 6; k++) due(x.worth(0, 999, k), told[k]);
        no(x.worth(0, 999, 6), x.worth(0, 999, -1), x.worth(1, 0, 0), x.worth(-1, 0, 0), x.worth(0, -1, 0), x.worth(0, 1000, 0));
        worths("2 + 3 * 4", 14, "(2 + 3) * 4", 20, "10 - 3 - 2", 5, "10 - (3 - 2)", 9, "-3 * -2", 6, "- 3 - 2", -5, "--3", 3);
        worths("5 or 0", 1, "0 or 0", 0, "5 and 6", 1, "5 and 0", 0, "not 5", 0, "not 0", 1, "not not 7", 1, "5", 5, "(0 - 7)", -7);
        worths("1 < 2", 1, "2 < 2", 0, "2 = 2", 1, "2 = 3", 0, "-1 < 0", 1, "1 or 0 and 0", 1, "(1 or 0) and 0", 0);
        worths("not 1 < 0", 1, "not 0 = 0", 0, "not 0 and 0", 0, "not (0 and 0)", 1, "1 < 2 + 3", 1, "1 + 1 = 2", 1, "(2 < 3) + 4", 5);
        worths("9999 * 9999 * 9999", (int) (9999L * 9999 * 9999), "-9999 * 9999 * 9999 * 9999", (int) (-9999L * 9999 * 9999 * 9999));
        worths("0007 + 10", 17, "kind * 100 + x * 10 + y", 437, "day - 1", 499, "1 = 1 or 1 < 0 and 0", 1, "0 and 1 or 1", 1);
        worths("not 0 or 1 < 0", 1, "2 and not 2 or not not 2", 1, "1 - 2 * 3 + 4", -1, "-(1 - 2) * 3", 3);
        due(rule("bar kind; bar 5 +;"), -117);
        due(x.worth(0, 500, 0), 3);
    }

    /** Pairs of an E and what it comes to for FIND 0 on DAY 500. */
    private void worths(Object... pairs) {
        for (int i = 0; i < pairs.length; i += 2) {
            due(rule("bar " + pairs[i] + ";"), 1);
            due(x.worth(0, 500, 0), (Integer) pairs[i + 1]);
        }
    }

    private void promise26() {
        begin(26);
        for (int i = 0; i < 4; i++) x.find(1, 0, 0, 1);
        x.find(2, 0, 0, 1);
        due(x.bond(0, 1, 0), 0);
        due(x.bond(0, 1, 1), 0);
        holes(0, 10, 20);
        due(x.bond(0, 1, 0), 0);
        holes(1, 60, 71);
        due(x.bond(0, 1, 0), 1);
        due(x.bond(0, 1, 1), 40);
        due(x.bond(1, 0, 1), -40);
        // Like sizes: the one below 0.
        holes(2, 15);
        due(x.bond(0, 2, 1), -5);
        due(x.bond(2, 0, 1), -5);
        holes(3, 70);
        due(x.bond(0, 3, 1), 50);
        anew();
        for (int i = 0; i < 2; i++) x.find(1, 0, 0, 1);
        x.find(0, 0, 0, 1);
        holes(0, 0, 1);
        holes(1, 51, 52);
        due(x.bond(0, 1, 0), 1);
        due(x.bond(0, 1, 1), 50);
        due(x.bond(1, 0, 1), -50);
        holes(1, 0);
        due(x.bond(0, 1, 1), 0);
        for (int what : new int[] {2, -1}) due(x.bond(0, 1, what), -1000);
        due(x.bond(0, 0, 0), -1000);
        due(x.bond(0, 2, 0), -1000);
        due(x.bond(2, 0, 0), -1000);
        due(x.bond(0, 3, 0), -1000);
        due(x.bond(-1, 0, 0), -1000);
    }

    private void promise27() {
        begin(27);
        bad(x.best(0));
        x.find(2, 0, 0, 1);
        for (int i = 1; i < 5; i++) x.find(1, 0, 0, 1);
        bad(x.best(0), x.best(5), x.best(-1));
        holes(1, 5, 15);
        holes(2, 5);
        due(x.best(1), NONE);
        holes(3, 0, 10, 30);
        holes(4, 89, 99);
        due(x.best(1), 3);
        due(x.best(3), 1);
        due(x.best(4), NONE);
        holes(4, 40, 50);
        due(x.best(1), 3);
        due(x.best(4), 1);
        holes(4, 70);
        due(x.best(3), 4);
        due(x.best(2), NONE);
    }

    private void promise28() {
        begin(28);
        bad(x.joined(0));
        for (int i = 0; i < 3; i++) x.find(1, 0, 0, 1);
        x.find(5, 0, 0, 1);
        bad(x.joined(3), x.joined(4), x.joined(-1));
        due(x.joined(0), NONE);
        holes(0, 1, 2, 4);
        holes(1, 11, 12);
        holes(2, 21, 22, 24);
        due(x.joined(0), 2);
        due(x.joined(2), 0);
        due(x.best(1), 0);
        due(x.joined(1), NONE);
    }

    private void promise29() {
        begin(29);
        due(x.task(1, 0), 0);
        due(x.task(200, 999), 1);
        bad(x.task(0, 0), x.task(201, 0), x.task(1, -1), x.task(1, 1000), x.task(LOW, HIGH));
        for (int i = 2; i < 9; i++) due(x.task(1, 1), i);
        due(x.task(1, 1), FULL);
        due(x.task(0, 1), BAD);
        due(x.count(9), 9);
    }

    private void promise30() {
        begin(30);
        due(x.gang(0), 0);
        due(x.gang(400), 1);
        bad(x.gang(-1), x.gang(401), x.gang(LOW), x.gang(HIGH));
        due(x.gang(5), 2);
        due(x.gang(5), 3);
        due(x.gang(5), FULL);
        due(x.gang(401), BAD);
        due(x.count(10), 4);
    }

    private void promise31() {
        begin(31);
        due(x.plan(), 0);
        x.gang(100);
        due(x.plan(), 0);
        x.task(101, 999);
        due(x.plan(), 0);
        x.task(100, 10);
        due(x.plan(), 10);
        x.task(50, 6);
        x.task(50, 5);
        due(x.plan(), 11);
        x.gang(150);
        due(x.plan(), 1010);
        anew();
        for (int i = 0; i < 9; i++) x.task(200, 999);
        for (int i = 0; i < 4; i++) x.gang(400);
        due(x.plan(), 8 * 999);
        anew();
        for (int i = 0; i < 9; i++) x.task(100, 999);
        for (int i = 0; i < 4; i++) x.gang(399);
        due(x.plan(), 9 * 999);
    }

    private void planned(int... gangs) {
        for (int task = 0; task < gangs.length; task++) due(x.planned(task), gangs[task]);
    }

    private void promise32() {
        begin(32);
        bad(x.planned(0));
        x.task(10, 5);
        planned(NONE);
        bad(x.planned(1), x.planned(-1), x.planned(9), x.planned(LOW));
        x.gang(9);
        x.gang(10);
        planned(1);
        // A TASK of no WORTH has the least GANG that leaves the WORTH as it is.
        x.task(9, 0);
        planned(1, 0);
        x.task(9, 1);
        planned(1, NONE, 0);
        // Of like ones TASK 0 first, and none behind all.
        anew();
        for (int i = 0; i < 3; i++) x.task(10, 7);
        x.gang(10);
        x.gang(10);
        planned(0, 1, NONE);
        x.gang(20);
        planned(0, 1, 2);
        anew();
        x.gang(10);
        x.gang(30);
        x.task(10, 1);
        x.task(20, 1);
        x.task(10, 1);
        planned(0, 1, 1);
        anew();
        for (int i = 0; i < 9; i++) x.task(200, 1);
        for (int i = 0; i < 4; i++) x.gang(400);
        planned(0, 0, 1, 1, 2, 2, 3, 3, NONE);
    }

    private void promise33() {
        begin(33);
        due(x.hatches(30), 0);
        due(x.hatches(2), 30);
        bad(x.hatches(1), x.hatches(3), x.hatches(32), x.hatches(-1), x.hatches(-2), x.hatches(LOW), x.hatches(HIGH));
        due(x.hatches(0), 2);
        due(x.hatches(16), 0);
    }

    private void promise34() {
        begin(34);
        due(x.roll(9), 0);
        due(x.roll(-9), 9);
        bad(x.roll(10), x.roll(-10), x.roll(LOW), x.roll(HIGH));
        due(x.roll(0), -9);
    }

    private void promise35() {
        begin(35);
        bad(x.stood(0));
        x.find(0, 25, 0, 1);
        due(x.stood(0), 5);
        for (int layer = 1; layer < 4; layer++) x.find(0, 29, layer, 1);
        due(x.stood(1), 0);
        // All open: c is the DECK; both c 3 and c 4 come to LAYER 3.
        x.hatches(30);
        due(x.stood(0), 1);
        due(x.stood(1), 1);
        due(x.stood(3), 2);
        x.roll(3);
        due(x.stood(3), 1);
        x.roll(-1);
        due(x.stood(1), 0);
        x.roll(9);
        due(x.stood(1), 1);
        due(x.stood(2), 0);
        // The HATCH under DECK 3 alone: from DECK 3 to 2, no farther; DECK 4 stays.
        x.hatches(8);
        x.roll(0);
        due(x.stood(0), 4);
        due(x.stood(1), 1);
        due(x.stood(2), 0);
        bad(x.stood(4), x.stood(-1));
    }

    private void promise36() {
        begin(36);
        bad(x.stoodAt(0, 0));
        x.find(0, 95, 0, 1);
        x.find(0, 5, 3, 1);
        for (int i = 0; i < 5; i++) due(x.stoodAt(0, i), 10 * i + 5);
        due(x.stoodAt(0, 5), NONE);
        due(x.stoodAt(0, -1), NONE);
        due(x.stoodAt(0, LOW), NONE);
        due(x.stoodAt(1, 0), NONE);
        x.hatches(30);
        x.roll(1);
        due(x.stoodAt(0, 0), 5);
        due(x.stoodAt(1, 0), 32);
        due(x.stoodAt(1, 1), 41);
        due(x.stoodAt(1, 2), NONE);
        x.roll(-1);
        due(x.stoodAt(1, 0), 38);
        due(x.stoodAt(1, 1), 49);
        x.roll(-2);
        due(x.stoodAt(1, 0), NONE);
        bad(x.stoodAt(2, 0), x.stoodAt(-1, 0), x.stoodAt(2, 9));
    }

    private void promise37() {
        begin(37);
        marks(2);
        for (int i = 0; i < 3; i++) x.tape(0, 1, 500 + 250 * i);
        for (int i = 0; i < 4; i++) x.find(0, 0, 0, 1);
        for (int i = 0; i < 5; i++) x.tank(0, 3);
        divers(6);
        for (int i = 1; i <= 7; i++) x.row(i, 5, 5);
        for (int i = 0; i < 8; i++) x.dive(0, 1, 100 * i, 1, 1);
        rule("bar 0;bar 0;");
        feed("bar bar b");
        for (int i = 0; i < 5; i++) x.task(1, 1);
        x.gang(5);
        x.lift(0, 0, 0);
        x.lift(1, 0, 0);
        x.lift(2, 0, 0);
        x.take(0, 28);
        long[] counts = {2, 3, 4, 5, 6, 7, 8, 9, 2, 5, 1, 1, 2};
        for (int what = 0; what <= 12; what++) due(x.count(what), counts[what]);
        bad(x.count(13), x.count(-1), x.count(LOW), x.count(HIGH));
    }

    private void promise38() {
        begin(38);
        due(x.sheet(0, 2, 40), 1);
        due(x.cell(0, 39, 1), 1);
        due(x.sheet(0, 0, 41), BAD);
        due(x.cell(0, 39, 1), 1);
        due(x.sheet(0, 0, -1), -14);
        due(x.none(0, 39), 1);
        due(x.sheet(3, 1, 0), 1);
        due(x.cell(3, 0, 1), -12);
        due(x.sheet(0, -1, 999), 1);
        due(x.sheet(0, -1, -999), 1);
        due(x.cell(0, 0, 1), -11);
        bad(x.sheet(-1, 0, 1), x.sheet(4, 0, 1), x.sheet(0, -2, 1), x.sheet(0, 3, 1), x.sheet(0, 3, -1), x.sheet(4, -1, 0));
        due(x.sheet(0, 2, LOW), -14);
        // All 0 again: neither a number nor none from before stays.
        marks(2);
        floats(0, 0, 2, 100);
        x.none(0, 2);
        due(x.tapes(0, 0, 1), 0);
        x.sheet(0, 2, 3);
        due(x.tapes(0, 0, 1), BAD);
        x.cell(0, 1, 2);
        x.cell(0, 2, 4);
        due(x.tapes(0, 0, 1), 1);
    }

    private void promise39() {
        begin(39);
        due(x.cell(0, 0, 0), -11);
        for (int sort = 0; sort < 3; sort++) {
            x.sheet(sort, sort, 2);
            due(x.cell(sort, 0, 40000), 1);
            due(x.cell(sort, 1, -40000), 1);
            due(x.cell(sort, 2, 0), -12);
            due(x.cell(sort, -1, 0), -12);
            due(x.cell(sort, LOW, 0), -12);
            bad(x.cell(sort, 0, 40001), x.cell(sort, 9, -40001));
        }
        bad(x.cell(-1, 0, 0), x.cell(4, 0, 0), x.cell(3, 0, 40001));
        due(x.cell(3, 0, 0), -11);
        marks(2);
        floats(2, 1, 3, 7);
        due(x.tapes(2, 0, 1), 1);
        due(x.tapeTold(0, 0), 0);
        due(x.tapeTold(0, 1), 1);
        due(x.tapeTold(0, 2), 3);
        x.none(2, 0);
        x.cell(2, 0, 2);
        due(x.tapes(2, 0, 1), BAD);
        // Floats are not cut to 16 bits: -35536 would be 30000 then.
        floats(2, 0, 2, -35536);
        due(x.tapes(2, 0, 1), BAD);
    }

    private void promise40() {
        begin(40);
        due(x.none(0, 0), -11);
        x.sheet(0, 2, 2);
        x.sheet(1, 1, 2);
        x.sheet(2, 0, 2);
        due(x.none(0, 1), 1);
        due(x.none(0, 1), 1);
        due(x.none(0, 2), -12);
        due(x.none(0, -1), -12);
        due(x.none(0, HIGH), -12);
        due(x.none(1, 0), -13);
        due(x.none(2, 9), -13);
        due(x.none(3, 9), -11);
        bad(x.none(-1, 0), x.none(4, 0));
        marks(2);
        for (int i = 0; i < 3; i++) {
            floats(3, 0, 2, 50);
            due(x.none(3, i), 1);
            due(x.tapes(3, 0, 1), 0);
        }
    }

    private void promise41() {
        begin(41);
        due(x.taken(0, 0), -11);
        due(x.taken(0, 6), BAD);
        for (int kind = 0; kind < 6; kind++) x.find(kind, 10 + kind, 0, 1);
        for (int kind = 0; kind < 6; kind++) {
            for (int k = 0; k < 6; k++) {
                boolean is = k == 0 || k == kind || kind == 5 && k == 3;
                due(x.taken(kind, k), is ? 10 + kind : -13);
            }
        }
        bad(x.taken(0, -1), x.taken(0, 6), x.taken(9, 6));
        due(x.taken(6, 5), -11);
        due(x.taken(-1, 5), -11);
        x.tank(0, 9);
        x.lift(5, 0, 0);
        due(x.taken(5, 0), 15);
        x.take(5, 7);
        due(x.taken(5, 3), 15);
    }

    private void run() {
        promise1();
        promise2();
        promise3();
        promise4();
        promise5();
        promise6();
        promise7();
        promise8();
        promise9();
        promise10();
        promise11();
        promise12();
        promise13();
        promise14();
        promise15();
        promise16();
        promise17();
        promise18();
        promise19();
        promise20();
        promise21();
        promise22();
        promise23();
        promise24();
        promise25();
        promise26();
        promise27();
        promise28();
        promise29();
        promise30();
        promise31();
        promise32();
        promise33();
        promise34();
        promise35();
        promise36();
        promise37();
        promise38();
        promise39();
        promise40();
        promise41();
    }

    public static void main(String[] args) {
        PromisesTest test = new PromisesTest();
        test.run();
        System.out.println(test.wrong == 0 ? "all answers are as due" : test.wrong + " answers are not as due");
        if (test.wrong != 0) System.exit(1);
    }
}
