/** The sentences on DIVERS, THE TABLE and DIVES: the third part of the terms, and promises 17 to 22. */
final class DivesBoundaries extends Checks {
    DivesBoundaries(Document document) {
        super(document);
    }

    @Override
    void run() {
        sixDivers();
        eightRows();
        firstRow();
        fortyDives();
        whyNoRow();
        whyMoreMinutes();
        whyMeets();
        whyRests();
        whyRestsByTheTable();
        whyDayIsFull();
        leastWhy();
        diver();
        row();
        dive();
        diveBad();
        diveFull();
        cancel();
        under();
        soonest();
        soonestNoLater();
        soonestNone();
        soonestBad();
    }

    private void sixDivers() {
        sentence(0, "DIVERS (6 at most, from 0).");
        x.row(90, 200, 1);
        bad(x.dive(0, 1, 0, 1, 1));
        for (int i = 0; i < 6; i++) {
            bad(x.under(i, 0));
            due(x.diver(), i);
            due(x.under(i, 0), 0);
        }
        due(x.diver(), FULL);
        due(x.count(4), 6);
        bad(x.under(6, 0), x.dive(5, 6, 0, 1, 1));
        due(x.dive(5, 4, 0, 1, 1), 0);
    }

    private void eightRows() {
        sentence(0, "THE TABLE has ROWS (8 at most), by rising DEPTHS 1 .. 90: a DEPTH, the most MINUTES 1 .. 200, a REST 1 .. 1440.");
        bad(x.row(0, 1, 1), x.row(91, 1, 1), x.row(-1, 1, 1), x.row(LOW, 1, 1), x.row(HIGH, 1, 1));
        bad(x.row(1, 0, 1), x.row(1, 201, 1), x.row(1, -1, 1), x.row(1, LOW, 1), x.row(1, HIGH, 1));
        bad(x.row(1, 1, 0), x.row(1, 1, 1441), x.row(1, 1, -1), x.row(1, 1, LOW), x.row(1, 1, HIGH));
        due(x.count(5), 0);
        // Told falling and in between, they lie by rising DEPTHS: each has its own most MINUTES.
        int[] depths = {90, 1, 50, 20, 70, 40, 60, 30};
        for (int i = 0; i < 8; i++) due(x.row(depths[i], depths[i] + 1, 1440), i + 1);
        due(x.row(45, 1, 1), FULL);
        due(x.count(5), 8);
        divers(2);
        for (int depth : depths) {
            due(x.dive(0, 1, 5000 * depth, depth, depth + 2), -22);
            due(x.dive(0, 1, 5000 * depth, depth, depth + 1), 0);
            x.cancel();
        }
        // Each keeps its own REST, also when one comes ahead of it.
        anew();
        divers(2);
        for (int depth : depths) x.row(depth, 200, 10 * depth);
        for (int depth : depths) {
            due(x.dive(0, 1, 0, depth, 7), 0);
            due(x.dive(0, 1, 6 + 10 * depth, 1, 7), -24);
            due(x.dive(0, 1, 7 + 10 * depth, 1, 7), 1);
            x.cancel();
            x.cancel();
        }
    }

    private void firstRow() {
        sentence(0, "THE ROW of a depth is the first one with that DEPTH or a greater one.");
        divers(2);
        x.row(30, 30, 1);
        x.row(10, 10, 1);
        x.row(20, 20, 1);
        int[][] rows = {{1, 10}, {9, 10}, {10, 10}, {11, 20}, {19, 20}, {20, 20}, {21, 30}, {29, 30}, {30, 30}};
        for (int[] told : rows) {
            due(x.soonest(0, 1, 0, told[0], told[1]), 0);
            due(x.soonest(0, 1, 0, told[0], told[1] + 1), NONE);
            due(x.dive(0, 1, 0, told[0], told[1] + 1), -22);
        }
        due(x.dive(0, 1, 0, 31, 1), -21);
        due(x.dive(0, 1, 0, 90, 1), -21);
    }

    private void fortyDives() {
        sentence(0, "A DIVE of two DIVERS begins at a MOMENT, goes to a depth, takes MINUTES: 40 DIVES at most.");
        divers(3);
        x.row(90, 200, 1);
        for (int i = 0; i < 40; i++) due(x.dive(i % 3, (i + 1) % 3, 1440 * i, 90, 100), i);
        due(x.dive(0, 1, 1440 * 40, 1, 1), FULL);
        due(x.count(6), 40);
        due(x.under(0, 0), 100);
        due(x.under(1, 0), 100);
        due(x.under(2, 0), 0);
        due(x.under(0, 39), 100);
        due(x.cancel(), 39);
        due(x.dive(0, 1, 1440 * 40, 1, 1), 39);
    }

    private void whyNoRow() {
        sentence(0, "It is refused with WHY: 1 there is no ROW;");
        divers(2);
        due(x.dive(0, 1, 0, 1, 1), -21);
        x.row(40, 1, 1);
        due(x.dive(0, 1, 0, 41, 1), -21);
        due(x.dive(0, 1, 0, 41, 200), -21);
        due(x.dive(0, 1, 0, 40, 1), 0);
    }

    private void whyMoreMinutes() {
        sentence(0, "2 more MINUTES than it lets;");
        divers(2);
        x.row(40, 30, 1);
        x.row(60, 120, 1);
        due(x.dive(0, 1, 0, 40, 31), -22);
        due(x.dive(0, 1, 0, 41, 121), -22);
        due(x.dive(0, 1, 0, 40, 200), -22);
        due(x.dive(0, 1, 0, 40, 30), 0);
        due(x.dive(0, 1, 1440, 41, 120), 1);
    }

    private void whyMeets() {
        sentence(0, "3 one of both is in another DIVE at that time (their times meet: from the beginning to the end, both counted);");
        divers(4);
        x.row(90, 200, 1);
        // From 100 to 110, both counted.
        due(x.dive(0, 1, 100, 5, 10), 0);
        due(x.dive(0, 2, 110, 5, 10), -23);
        due(x.dive(0, 2, 90, 5, 10), -23);
        due(x.dive(2, 1, 110, 5, 10), -23);
        due(x.dive(2, 1, 90, 5, 10), -23);
        due(x.dive(0, 2, 105, 5, 1), -23);
        due(x.dive(0, 2, 50, 5, 100), -23);
        due(x.dive(0, 1, 100, 5, 10), -23);
        due(x.dive(1, 0, 100, 5, 10), -23);
        // Others may be under at that time.
        due(x.dive(2, 3, 100, 5, 10), 1);
        due(x.dive(0, 2, 111, 5, 10), 2);
        due(x.dive(1, 3, 89, 5, 10), 3);
        // Over midnight.
        due(x.dive(0, 1, 1439, 5, 10), 4);
        due(x.dive(0, 2, 1449, 5, 1), -23);
        due(x.dive(0, 2, 1450, 5, 1), 5);
    }

    private void whyRests() {
        sentence(0, "4 one of both rests: between the end of another DIVE of that one and the beginning of this, or the end of this and the beginning of another one, there are fewer MINUTES than the REST of the ROW of the former one's depth");
        divers(3);
        x.row(10, 200, 30);
        x.row(20, 200, 100);
        due(x.dive(0, 1, 1000, 10, 10), 0);
        // Behind it: the REST of its own ROW, 30, whatever the depth of the one that comes.
        due(x.dive(0, 2, 1039, 20, 1), -24);
        due(x.dive(2, 1, 1039, 10, 1), -24);
        due(x.dive(0, 2, 1011, 10, 1), -24);
        due(x.dive(0, 2, 1040, 20, 1), 1);
        x.cancel();
        // Ahead of it: the REST of the ROW of the one that comes.
        due(x.dive(0, 2, 960, 10, 11), -24);
        due(x.dive(0, 2, 960, 10, 10), 1);
        x.cancel();
        due(x.dive(2, 1, 890, 20, 11), -24);
        due(x.dive(2, 1, 890, 20, 10), 1);
        x.cancel();
        due(x.dive(2, 1, 970, 11, 1), -24);
        due(x.dive(2, 1, 969, 10, 1), 1);
        // A REST of 1: the very next MINUTE.
        anew();
        divers(2);
        x.row(10, 200, 1);
        due(x.dive(0, 1, 100, 10, 10), 0);
        due(x.dive(0, 1, 111, 10, 10), 1);
        due(x.dive(0, 1, 98, 10, 1), 2);
        // A REST of 1440 goes into the next DAY.
        anew();
        divers(2);
        x.row(10, 200, 1440);
        due(x.dive(0, 1, 1430, 10, 20), 0);
        due(x.dive(0, 1, 2889, 10, 20), -24);
        due(x.dive(0, 1, 2890, 10, 20), 1);
    }

    private void whyRestsByTheTable() {
        sentence(0, "(as THE TABLE is now; without a ROW 0);");
        divers(2);
        x.row(50, 60, 500);
        due(x.dive(0, 1, 0, 5, 10), 0);
        due(x.dive(0, 1, 509, 5, 10), -24);
        x.row(5, 60, 90);
        due(x.dive(0, 1, 99, 5, 10), -24);
        due(x.dive(0, 1, 100, 5, 10), 1);
        // Not only the DIVE that is nearest: the first one rests longer by the ROW that has come in place of its own.
        x.row(5, 60, 1000);
        x.row(6, 60, 1);
        x.cancel();
        due(x.dive(0, 1, 1009, 6, 10), -24);
        x.row(5, 60, 1);
        due(x.dive(0, 1, 200, 6, 10), 1);
        x.row(5, 60, 1000);
        due(x.dive(0, 1, 300, 6, 10), -24);
        due(x.dive(0, 1, 1009, 6, 10), -24);
        due(x.dive(0, 1, 1010, 6, 10), 2);
    }

    private void whyDayIsFull() {
        sentence(0, "5 one of both has more than 120 MINUTES in DIVES that begin on that DAY, with this one;");
        divers(4);
        x.row(10, 200, 1);
        due(x.dive(0, 1, 0, 10, 121), -25);
        due(x.dive(0, 1, 0, 10, 120), 0);
        due(x.dive(0, 2, 500, 10, 1), -25);
        due(x.dive(2, 1, 500, 10, 1), -25);
        due(x.dive(2, 3, 500, 10, 1), 1);
        due(x.dive(2, 0, 1439, 10, 1), -25);
        due(x.dive(2, 0, 1440, 10, 1), 2);
        // The DAY on which it begins has all of its MINUTES, also those beyond midnight.
        anew();
        divers(3);
        x.row(10, 200, 1);
        due(x.dive(0, 1, 1439, 10, 100), 0);
        due(x.dive(0, 2, 1600, 10, 120), 1);
        due(x.dive(0, 2, 500, 10, 21), -25);
        due(x.dive(0, 2, 500, 10, 20), 2);
        due(x.dive(1, 2, 600, 10, 21), -25);
        due(x.dive(1, 2, 2000, 10, 1), -25);
        // The last DAY.
        due(x.dive(0, 2, 1438560, 10, 120), 3);
        due(x.dive(0, 2, 1439999, 10, 1), -25);
        due(x.dive(0, 2, 1438559, 10, 1), -23);
        due(x.dive(0, 2, 1438558, 10, 1), 4);
    }

    private void leastWhy() {
        sentence(0, "5 one of both has more than 120 MINUTES in DIVES that begin on that DAY, with this one; the least that holds.");
        divers(3);
        x.row(50, 100, 100);
        due(x.dive(0, 1, 1000, 50, 100), 0);
        due(x.dive(0, 2, 1000, 51, 101), -21);
        due(x.dive(0, 2, 1000, 50, 101), -22);
        due(x.dive(0, 2, 1100, 50, 100), -23);
        due(x.dive(0, 2, 1101, 50, 100), -24);
        due(x.dive(0, 2, 1200, 50, 100), -25);
        // One DIVER rests, the other is under: 3, whichever of both comes first, and whichever DIVE was told first.
        due(x.dive(2, 1, 100, 50, 10), 1);
        due(x.dive(0, 1, 150, 50, 960), -2);
        due(x.dive(2, 1, 950, 50, 100), -23);
        due(x.dive(1, 2, 950, 50, 100), -23);
        due(x.dive(1, 2, 205, 50, 100), -24);
        due(x.dive(1, 2, 210, 50, 100), -25);
        anew();
        divers(3);
        x.row(50, 100, 100);
        x.dive(0, 1, 100, 50, 10);
        x.dive(1, 2, 300, 50, 10);
        due(x.dive(0, 2, 205, 50, 96), -23);
        due(x.dive(2, 0, 205, 50, 96), -23);
        due(x.dive(0, 2, 205, 50, 90), -24);
    }

    private void diver() {
        sentence(17, "A DIVER: its number. FULL.");
        for (int i = 0; i < 6; i++) due(x.diver(), i);
        for (int i = 0; i < 3; i++) due(x.diver(), FULL);
        due(x.count(4), 6);
    }

    private void row() {
        sentence(18, "A ROW of THE TABLE (in place of one with that DEPTH): how many. BAD; FULL.");
        divers(2);
        for (int i = 1; i <= 8; i++) {
            due(x.row(10 * i, 10, 1), i);
            due(x.row(10 * i, 10 + i, 2), i);
            bad(x.row(0, 1, 1), x.row(10 * i, 0, 1), x.row(10 * i, 1, 0));
        }
        // In place of one there is room also when there are 8; BAD is named ahead of FULL.
        for (int i = 1; i <= 8; i++) due(x.row(10 * i, 20 + i, 3), 8);
        bad(x.row(0, 1, 1), x.row(91, 1, 1), x.row(5, 0, 1), x.row(5, 201, 1), x.row(5, 1, 0), x.row(5, 1, 1441));
        for (int depth : new int[] {1, 9, 11, 79, 81, 90}) due(x.row(depth, 1, 1), FULL);
        due(x.count(5), 8);
        for (int i = 1; i <= 8; i++) {
            due(x.soonest(0, 1, 0, 10 * i, 20 + i), 0);
            due(x.soonest(0, 1, 0, 10 * i, 21 + i), NONE);
        }
    }

    private void dive() {
        sentence(19, "A DIVE (depth 1 .. 90, minutes 1 .. 200): its number; -20 less WHY it is refused.");
        divers(2);
        x.row(90, 200, 1);
        bad(x.dive(0, 1, 0, 0, 1), x.dive(0, 1, 0, 91, 1), x.dive(0, 1, 0, LOW, 1), x.dive(0, 1, 0, HIGH, 1));
        bad(x.dive(0, 1, 0, 1, 0), x.dive(0, 1, 0, 1, 201), x.dive(0, 1, 0, 1, LOW), x.dive(0, 1, 0, 1, HIGH));
        due(x.dive(0, 1, 0, 1, 1), 0);
        due(x.dive(0, 1, 1440, 90, 1), 1);
        due(x.dive(0, 1, 2880, 90, 200), -25);
        due(x.dive(0, 1, 1, 90, 1), -23);
        x.row(90, 1, 1);
        due(x.dive(0, 1, 2880, 90, 200), -22);
        // A refused one has no number.
        due(x.dive(0, 1, 4320, 90, 1), 2);
        due(x.count(6), 3);
    }

    private void diveBad() {
        sentence(19, "BAD: also a = b, a MOMENT below 0 or from 1440000 on;");
        bad(x.dive(0, 1, 0, 1, 1));
        divers(3);
        bad(x.dive(0, 0, 0, 1, 1), x.dive(2, 2, 0, 1, 1), x.dive(3, 3, 0, 1, 1), x.dive(-1, -1, 0, 1, 1));
        bad(x.dive(0, 3, 0, 1, 1), x.dive(3, 0, 0, 1, 1), x.dive(0, -1, 0, 1, 1), x.dive(-1, 0, 0, 1, 1));
        bad(x.dive(LOW, 0, 0, 1, 1), x.dive(0, HIGH, 0, 1, 1));
        bad(x.dive(0, 1, -1, 1, 1), x.dive(0, 1, 1440000, 1, 1), x.dive(0, 1, LOW, 1, 1), x.dive(0, 1, HIGH, 1, 1));
        // BAD comes ahead of WHY: there is no ROW yet.
        due(x.dive(0, 1, 0, 1, 1), -21);
        due(x.dive(0, 1, 1439999, 1, 1), -21);
        x.row(90, 200, 1);
        due(x.dive(0, 1, 1439999, 1, 120), 0);
        due(x.dive(0, 1, 0, 1, 1), 1);
        due(x.under(0, 999), 120);
    }

    private void diveFull() {
        sentence(19, "FULL (behind WHY).");
        divers(4);
        x.row(80, 100, 5);
        for (int i = 0; i < 40; i++) x.dive(0, 1, 1440 * i, 1, 100);
        due(x.dive(0, 1, 0, 81, 1), -21);
        due(x.dive(0, 1, 0, 80, 101), -22);
        due(x.dive(0, 1, 0, 80, 1), -23);
        due(x.dive(0, 1, 104, 80, 1), -24);
        due(x.dive(0, 1, 105, 80, 21), -25);
        due(x.dive(0, 1, 105, 80, 20), FULL);
        due(x.dive(2, 3, 0, 1, 1), FULL);
        bad(x.dive(0, 0, 0, 1, 1), x.dive(0, 1, -1, 1, 1));
        due(x.count(6), 40);
    }

    private void cancel() {
        sentence(20, "The DIVE that came last is no more: how many. STATE: there is none.");
        due(x.cancel(), STATE);
        divers(2);
        x.row(10, 100, 10);
        due(x.cancel(), STATE);
        // The one that came last, not the one that is latest.
        x.dive(0, 1, 1000, 1, 30);
        x.dive(0, 1, 500, 1, 20);
        x.dive(0, 1, 0, 1, 10);
        due(x.cancel(), 2);
        due(x.under(0, 0), 50);
        due(x.dive(0, 1, 5, 1, 1), 2);
        due(x.cancel(), 2);
        due(x.cancel(), 1);
        due(x.under(0, 0), 30);
        due(x.dive(0, 1, 500, 1, 1), 1);
        due(x.cancel(), 1);
        due(x.cancel(), 0);
        due(x.under(0, 0), 0);
        due(x.cancel(), STATE);
        due(x.count(6), 0);
    }

    private void under() {
        sentence(21, "The MINUTES of a DIVER's DIVES that begin on a DAY. BAD.");
        bad(x.under(0, 0));
        divers(4);
        x.row(10, 120, 1);
        x.dive(0, 1, 0, 1, 50);
        x.dive(1, 2, 100, 1, 60);
        x.dive(2, 0, 1439, 1, 40);
        x.dive(0, 1, 2879, 1, 120);
        x.dive(0, 1, 1439999, 1, 7);
        long[][] dues = {{90, 120, 7}, {110, 120, 7}, {100, 0, 0}, {0, 0, 0}};
        for (int diver = 0; diver < 4; diver++) {
            due(x.under(diver, 0), dues[diver][0]);
            due(x.under(diver, 1), dues[diver][1]);
            due(x.under(diver, 2), 0);
            due(x.under(diver, 999), dues[diver][2]);
        }
        bad(x.under(4, 0), x.under(-1, 0), x.under(LOW, 0), x.under(HIGH, 0));
        bad(x.under(0, -1), x.under(0, 1000), x.under(0, LOW), x.under(0, HIGH));
    }

    private void soonest() {
        sentence(22, "The first MOMENT from a told one on, at which dive() with these would not be refused by WHY 3, 4, 5");
        divers(4);
        x.row(10, 200, 30);
        x.row(20, 200, 200);
        due(x.soonest(0, 1, 0, 1, 1), 0);
        due(x.soonest(0, 1, 777, 1, 120), 777);
        x.dive(0, 1, 1000, 10, 50);
        // In the gap ahead of it, at its very end, and behind it.
        due(x.soonest(0, 2, 900, 10, 70), 900);
        due(x.soonest(0, 2, 901, 10, 70), 1080);
        due(x.soonest(2, 1, 900, 10, 71), 1440);
        due(x.soonest(0, 2, 901, 10, 69), 901);
        due(x.soonest(0, 2, 600, 20, 70), 600);
        due(x.soonest(0, 2, 730, 20, 70), 730);
        due(x.soonest(0, 2, 731, 20, 70), 1080);
        due(x.soonest(0, 2, 1050, 10, 1), 1080);
        due(x.soonest(0, 2, 1079, 10, 1), 1080);
        due(x.soonest(0, 2, 1080, 10, 1), 1080);
        // Others are not hindered.
        due(x.soonest(2, 3, 1000, 10, 120), 1000);
        // A full DAY: the first MINUTE of the next one, if nothing hinders there.
        due(x.soonest(0, 2, 1080, 10, 71), 1440);
        x.dive(1, 3, 1480, 10, 10);
        due(x.soonest(1, 2, 1080, 10, 71), 1520);
        due(x.soonest(0, 2, 1080, 10, 71), 1440);
        // The longest REST, behind the one and ahead of the other, and in one gap there is just room.
        anew();
        divers(2);
        x.row(10, 200, 1440);
        x.dive(0, 1, 0, 10, 100);
        due(x.soonest(0, 1, 0, 10, 100), 1540);
        x.dive(0, 1, 3080, 10, 100);
        due(x.soonest(0, 1, 0, 10, 100), 1540);
        due(x.soonest(0, 1, 0, 10, 101), 4620);
        due(x.soonest(0, 1, 1541, 10, 100), 4620);
        // FULL is no WHY.
        anew();
        divers(2);
        x.row(10, 2, 1);
        for (int i = 0; i < 40; i++) x.dive(0, 1, 3 * i, 10, 2);
        due(x.soonest(0, 1, 0, 10, 2), 120);
        due(x.soonest(0, 1, 118, 10, 2), 120);
        due(x.dive(0, 1, 120, 10, 2), FULL);
        due(x.count(6), 40);
    }

    private void soonestNoLater() {
        sentence(22, "(no later than 10080 MINUTES behind it).");
        divers(2);
        x.row(10, 200, 1);
        for (int day = 0; day < 8; day++) x.dive(0, 1, 1440 * day, 10, 120);
        due(x.soonest(0, 1, 1440, 10, 1), 11520);
        due(x.soonest(0, 1, 1439, 10, 1), NONE);
        due(x.soonest(0, 1, 1441, 10, 1), 11520);
        x.dive(0, 1, 11520, 10, 9);
        due(x.soonest(0, 1, 1449, 10, 1), NONE);
        due(x.soonest(0, 1, 1450, 10, 1), 11530);
        // It ends with the last MOMENT of all.
        x.dive(0, 1, 1439998, 10, 120);
        due(x.soonest(0, 1, 1439997, 10, 1), NONE);
        due(x.soonest(0, 1, 1439996, 10, 1), NONE);
        due(x.soonest(0, 1, 1439999, 10, 1), NONE);
        x.cancel();
        due(x.soonest(0, 1, 1439999, 10, 120), 1439999);
        x.dive(0, 1, 1439990, 10, 8);
        due(x.soonest(0, 1, 1439990, 10, 1), 1439999);
        x.dive(0, 1, 1439999, 10, 1);
        due(x.soonest(0, 1, 1439990, 10, 1), NONE);
        // There is no DAY behind a last one that is full, nor a MOMENT behind a REST up to its end.
        anew();
        divers(2);
        x.row(10, 200, 1);
        x.dive(0, 1, 1438560, 10, 120);
        due(x.soonest(0, 1, 1438700, 10, 1), NONE);
        due(x.soonest(0, 1, 1439999, 10, 1), NONE);
        anew();
        divers(2);
        x.row(10, 200, 40);
        x.dive(0, 1, 1439950, 10, 10);
        due(x.soonest(0, 1, 1439950, 10, 1), NONE);
        x.row(10, 200, 39);
        due(x.soonest(0, 1, 1439950, 10, 1), 1439999);
    }

    private void soonestNone() {
        sentence(22, "NONE: none; or WHY 1 or 2 holds.");
        divers(2);
        due(x.soonest(0, 1, 0, 1, 1), NONE);
        x.row(40, 30, 1);
        x.row(50, 200, 1);
        due(x.soonest(0, 1, 0, 51, 1), NONE);
        due(x.soonest(0, 1, 0, 40, 31), NONE);
        due(x.soonest(0, 1, 0, 40, 30), 0);
        due(x.soonest(0, 1, 0, 41, 120), 0);
        // More than 120 MINUTES fit into no DAY.
        due(x.soonest(0, 1, 0, 41, 121), NONE);
        due(x.soonest(0, 1, 0, 41, 200), NONE);
    }

    private void soonestBad() {
        sentence(22, "BAD as dive().");
        bad(x.soonest(0, 1, 0, 1, 1));
        divers(2);
        bad(x.soonest(0, 0, 0, 1, 1), x.soonest(0, 2, 0, 1, 1), x.soonest(2, 0, 0, 1, 1), x.soonest(-1, 0, 0, 1, 1));
        bad(x.soonest(0, -1, 0, 1, 1), x.soonest(LOW, 0, 0, 1, 1), x.soonest(0, HIGH, 0, 1, 1));
        bad(x.soonest(0, 1, -1, 1, 1), x.soonest(0, 1, 1440000, 1, 1), x.soonest(0, 1, LOW, 1, 1), x.soonest(0, 1, HIGH, 1, 1));
        bad(x.soonest(0, 1, 0, 0, 1), x.soonest(0, 1, 0, 91, 1), x.soonest(0, 1, 0, LOW, 1), x.soonest(0, 1, 0, HIGH, 1));
        bad(x.soonest(0, 1, 0, 1, 0), x.soonest(0, 1, 0, 1, 201), x.soonest(0, 1, 0, 1, LOW), x.soonest(0, 1, 0, 1, HIGH));
        due(x.soonest(0, 1, 1439999, 90, 200), NONE);
    }
}
