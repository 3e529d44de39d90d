/** The sentences on TIMBERS and PLANS: the fifth and sixth part of the terms, and promises 26 to 32. */
final class PlansBoundaries extends Checks {
    PlansBoundaries(Document document) {
        super(document);
    }

    @Override
    void run() {
        sumOfTwoTimbers();
        bondAndShift();
        bestOfATimber();
        joinedTimbers();
        bond();
        best();
        joined();
        nineTasks();
        fourGangs();
        noMoreMinutes();
        greatestWorth();
        likePlans();
        task();
        gang();
        plan();
        planned();
    }

    private void bonds(int a, int b, int bond, int shift) {
        due(x.bond(a, b, 0), bond);
        due(x.bond(a, b, 1), shift);
    }

    private void sumOfTwoTimbers() {
        sentence(0, "THE SUM of two TIMBERS a, b for a shift t (-50 .. 50): of pairs of a HOLE of a at p and one of b at p + t, how many there are.");
        timber(0);
        timber(50);
        timber(51);
        bonds(0, 1, 1, 50);
        bonds(1, 0, 1, -50);
        bonds(0, 2, 0, 0);
        bonds(2, 0, 0, 0);
        bonds(1, 2, 1, 1);
        timber(99);
        timber(49);
        timber(48);
        bonds(3, 4, 1, -50);
        bonds(4, 3, 1, 50);
        bonds(3, 5, 0, 0);
        // Three pairs at 51 do not count, two at 50 do.
        timber(0, 10, 20);
        timber(51, 61, 71);
        bonds(6, 7, 2, 41);
        // All 8 of both.
        timber(0, 1, 2, 3, 4, 5, 6, 7);
        timber(50, 51, 52, 53, 54, 55, 56, 57);
        timber(51, 52, 53, 54, 55, 56, 57, 58);
        bonds(8, 9, 8, 50);
        bonds(9, 8, 8, -50);
        bonds(8, 10, 7, 50);
        bonds(9, 10, 8, 1);
    }

    private void bondAndShift() {
        sentence(0, "BOND: the greatest SUM over all shifts; its SHIFT the least such shift by size, of like ones the one below 0.");
        timber();
        timber();
        timber(10, 20);
        bonds(0, 1, 0, 0);
        bonds(0, 2, 0, 0);
        bonds(2, 0, 0, 0);
        // Like sizes: -5 and 5.
        timber(15);
        bonds(2, 3, 1, -5);
        bonds(3, 2, 1, -5);
        // Of -6 and 4 it is 4; of -4 and 6 it is -4.
        timber(14);
        bonds(2, 4, 1, 4);
        bonds(4, 2, 1, -4);
        timber(16);
        bonds(2, 5, 1, -4);
        // 0 is the least of all.
        timber(10, 15, 25);
        bonds(2, 6, 2, 5);
        timber(10, 99);
        bonds(2, 7, 1, 0);
        // The greatest SUM comes ahead of the least shift.
        timber(20, 59, 69);
        bonds(2, 8, 2, 49);
        timber(30, 0, 10);
        bonds(2, 9, 2, -10);
        timber(0, 10, 30);
        bonds(9, 10, 3, 0);
    }

    private void bestOfATimber() {
        sentence(0, "BEST of a TIMBER: the other one with the greatest BOND above 1, of like ones the least number.");
        timber(5, 15);
        due(x.best(0), NONE);
        timber(40);
        due(x.best(0), NONE);
        timber(30, 41);
        due(x.best(0), NONE);
        timber(30, 40);
        due(x.best(0), 3);
        timber(5, 15);
        due(x.best(0), 3);
        due(x.best(4), 0);
        due(x.best(3), 0);
        x.hole(0, 99);
        due(x.best(0), 3);
        timber(5, 15, 99);
        due(x.best(0), 5);
        timber(5, 15, 99);
        due(x.best(0), 5);
        due(x.best(5), 0);
        due(x.best(6), 0);
        due(x.best(1), NONE);
        // Never itself, and never another KIND.
        anew();
        x.find(2, 0, 0, 1);
        timber(1, 2, 3);
        due(x.best(1), NONE);
    }

    private void joinedTimbers() {
        sentence(0, "Two are JOINED if each is the other's BEST.");
        timber(1, 2, 4);
        timber(11, 12);
        due(x.joined(0), 1);
        due(x.joined(1), 0);
        timber(21, 22, 24);
        due(x.joined(0), 2);
        due(x.joined(2), 0);
        due(x.joined(1), NONE);
        // A ring of like ones: the least numbers have one another.
        anew();
        for (int i = 0; i < 3; i++) timber(1, 2, 4);
        due(x.joined(0), 1);
        due(x.joined(1), 0);
        due(x.joined(2), NONE);
    }

    private void bond() {
        sentence(26, "BOND (what 0), SHIFT (1) of two TIMBERS. -1000: no such, one is none, or a = b.");
        due(x.bond(0, 1, 0), -1000);
        timber(10);
        timber(13);
        x.find(0, 0, 0, 1);
        x.find(5, 0, 0, 1);
        bonds(0, 1, 1, 3);
        int[][] wrongs = {{0, 1, 2}, {0, 1, -1}, {0, 1, LOW}, {0, 1, HIGH}, {0, 0, 0}, {1, 1, 1}, {2, 2, 0}, {0, 2, 0}, {2, 0, 0}, {0, 3, 1},
            {3, 1, 0}, {0, 4, 0}, {4, 0, 0}, {4, 4, 0}, {0, -1, 0}, {-1, 0, 0}, {-1, -1, 0}, {LOW, 0, 0}, {0, HIGH, 1}};
        for (int[] told : wrongs) due(x.bond(told[0], told[1], told[2]), -1000);
    }

    private void best() {
        sentence(27, "BEST of a TIMBER. NONE. BAD: no TIMBER.");
        bad(x.best(0));
        for (int kind = 0; kind < 6; kind++) x.find(kind, 0, 0, 1);
        for (int kind = 0; kind < 6; kind++) due(x.best(kind), kind == 1 ? NONE : BAD);
        bad(x.best(6), x.best(-1), x.best(LOW), x.best(HIGH));
        x.hole(1, 3);
        x.hole(1, 4);
        due(x.best(1), NONE);
        timber(53, 54);
        due(x.best(1), 6);
        due(x.best(6), 1);
        // The 20th FIND can be the one.
        anew();
        timber(0, 7, 20);
        for (int i = 1; i < 19; i++) timber();
        timber(9, 16, 29);
        due(x.best(0), 19);
        due(x.best(19), 0);
        // Where they are does not matter.
        x.tank(1, 40);
        x.lift(19, 0, 0);
        due(x.best(0), 19);
        x.take(19, 56);
        due(x.best(0), 19);
    }

    private void joined() {
        sentence(28, "The TIMBER with which it is JOINED. NONE. BAD.");
        bad(x.joined(0));
        for (int kind = 0; kind < 6; kind++) x.find(kind, 0, 0, 1);
        for (int kind = 0; kind < 6; kind++) due(x.joined(kind), kind == 1 ? NONE : BAD);
        bad(x.joined(6), x.joined(-1), x.joined(LOW), x.joined(HIGH));
        x.hole(1, 3);
        timber(7);
        due(x.joined(1), NONE);
        x.hole(1, 5);
        x.hole(6, 9);
        due(x.joined(1), 6);
        due(x.joined(6), 1);
    }

    private void planned(int... gangs) {
        for (int task = 0; task < gangs.length; task++) due(x.planned(task), gangs[task]);
    }

    private void nineTasks() {
        sentence(0, "A PLAN: TASKS (9 at most, from 0) have MINUTES 1 .. 200 and a WORTH 0 .. 999;");
        bad(x.task(0, 0), x.task(201, 0), x.task(-1, 0), x.task(LOW, 0), x.task(HIGH, 0));
        bad(x.task(1, -1), x.task(1, 1000), x.task(1, LOW), x.task(1, HIGH));
        due(x.count(9), 0);
        for (int i = 0; i < 9; i++) due(x.task(i % 2 == 0 ? 1 : 200, i % 2 == 0 ? 999 : 0), i);
        due(x.task(1, 1), FULL);
        due(x.count(9), 9);
        x.gang(4);
        due(x.plan(), 4 * 999);
        planned(0, NONE, 0, NONE, 0, NONE, 0, NONE, NONE);
        bad(x.planned(9));
    }

    private void fourGangs() {
        sentence(0, "GANGS (4 at most) have MINUTES 0 .. 400 each.");
        bad(x.gang(-1), x.gang(401), x.gang(LOW), x.gang(HIGH));
        due(x.count(10), 0);
        due(x.gang(0), 0);
        due(x.gang(400), 1);
        due(x.gang(0), 2);
        due(x.gang(1), 3);
        due(x.gang(1), FULL);
        due(x.count(10), 4);
        x.task(1, 5);
        x.task(200, 5);
        x.task(200, 5);
        due(x.plan(), 15);
        planned(3, 1, 1);
    }

    private void noMoreMinutes() {
        sentence(0, "A PLAN gives TASKS to GANGS, each to one at most, no GANG more MINUTES than it has.");
        x.task(60, 5);
        x.task(41, 4);
        x.gang(100);
        due(x.plan(), 5);
        anew();
        x.task(60, 5);
        x.task(40, 4);
        x.gang(100);
        due(x.plan(), 9);
        // One TASK is not shared by two GANGS, nor counted for both.
        anew();
        x.task(100, 5);
        x.gang(50);
        x.gang(50);
        due(x.plan(), 0);
        planned(NONE);
        x.gang(100);
        x.gang(100);
        due(x.plan(), 5);
        planned(2);
        // 400 MINUTES: 2 TASKS of 200, not 3; with 399 only one.
        anew();
        for (int i = 0; i < 3; i++) x.task(200, 1);
        x.gang(400);
        due(x.plan(), 2);
        anew();
        for (int i = 0; i < 3; i++) x.task(200, 1);
        x.gang(399);
        due(x.plan(), 1);
    }

    private void greatestWorth() {
        sentence(0, "THE PLAN: of the greatest WORTH together;");
        x.task(100, 10);
        x.task(51, 6);
        x.task(49, 5);
        x.gang(100);
        due(x.plan(), 11);
        planned(NONE, 0, 0);
        // Not the dearest first, not the shortest first: both GANGS full is the only way to all.
        anew();
        int[] minutes = {7, 5, 4, 4, 3, 3};
        for (int minute : minutes) x.task(minute, minute);
        x.gang(13);
        x.gang(13);
        due(x.plan(), 26);
        planned(0, 1, 1, 1, 0, 0);
        // The most that there can be.
        anew();
        for (int i = 0; i < 9; i++) x.task(133, 999);
        for (int i = 0; i < 4; i++) x.gang(400);
        due(x.plan(), 8991);
    }

    private void likePlans() {
        sentence(0, "of like ones the one in which TASK 0 has the least GANG (none comes behind all), then TASK 1, and so on.");
        // None behind all: a TASK without WORTH is given where there is room.
        x.task(1, 0);
        planned(NONE);
        x.gang(0);
        planned(NONE);
        x.gang(1);
        planned(1);
        x.gang(1);
        planned(1);
        x.task(1, 0);
        planned(1, 2);
        x.task(1, 1);
        planned(1, NONE, 2);
        // TASK 0 counts first, even if all others have none or later GANGS by that.
        anew();
        x.task(2, 2);
        x.task(1, 1);
        x.task(1, 1);
        x.gang(2);
        planned(0, NONE, NONE);
        x.gang(1);
        planned(0, 1, NONE);
        x.gang(3);
        planned(0, 1, 2);
        // The last TASK of nine and the last GANG of four.
        anew();
        for (int i = 0; i < 9; i++) x.task(2, i < 8 ? 1 : 0);
        for (int i = 0; i < 4; i++) x.gang(i < 3 ? 4 : 6);
        planned(0, 0, 1, 1, 2, 2, 3, 3, 3);
        anew();
        for (int i = 0; i < 9; i++) x.task(1, 0);
        for (int i = 0; i < 4; i++) x.gang(2);
        planned(0, 0, 1, 1, 2, 2, 3, 3, NONE);
        due(x.plan(), 0);
    }

    private void task() {
        sentence(29, "A TASK: its number. BAD; FULL.");
        for (int i = 0; i < 9; i++) {
            bad(x.task(0, 0), x.task(1, 1000));
            due(x.task(200, 999), i);
        }
        bad(x.task(0, 0), x.task(201, 0), x.task(1, -1), x.task(1, 1000));
        due(x.task(1, 0), FULL);
    }

    private void gang() {
        sentence(30, "A GANG: its number. BAD; FULL.");
        for (int i = 0; i < 4; i++) {
            bad(x.gang(-1), x.gang(401));
            due(x.gang(400 * (i % 2)), i);
        }
        bad(x.gang(-1), x.gang(401));
        due(x.gang(0), FULL);
    }

    private void plan() {
        sentence(31, "The WORTH of THE PLAN.");
        due(x.plan(), 0);
        x.gang(0);
        due(x.plan(), 0);
        x.task(1, 999);
        due(x.plan(), 0);
        x.gang(1);
        due(x.plan(), 999);
        x.task(1, 999);
        due(x.plan(), 999);
        x.gang(1);
        due(x.plan(), 1998);
        // Asked again it is the same.
        due(x.plan(), 1998);
        bad(x.task(0, 0), x.gang(401));
        due(x.plan(), 1998);
        anew();
        x.task(1, 0);
        x.gang(400);
        due(x.plan(), 0);
    }

    private void planned() {
        sentence(32, "The GANG of a TASK in it. NONE: none. BAD.");
        bad(x.planned(0));
        x.gang(10);
        bad(x.planned(0));
        x.task(11, 5);
        planned(NONE);
        bad(x.planned(1), x.planned(-1), x.planned(LOW), x.planned(HIGH));
        x.task(10, 5);
        planned(NONE, 0);
        bad(x.planned(2));
        x.gang(11);
        planned(1, 0);
        x.gang(11);
        planned(1, 0);
        for (int i = 2; i < 9; i++) x.task(200, 1);
        planned(1, 0, NONE, NONE, NONE, NONE, NONE, NONE, NONE);
        bad(x.planned(9), x.planned(10));
    }
}
