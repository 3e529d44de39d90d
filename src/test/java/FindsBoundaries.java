/** The sentences on FINDS and TANKS: the second part of the terms, and promises 9 to 16. */
final class FindsBoundaries extends Checks {
    private static final int[] WEEKS = {4, 8, 6, 2, 10, 1};

    FindsBoundaries(Document document) {
        super(document);
    }

    @Override
    void run() {
        twentyFinds();
        kinds();
        squareLayerSize();
        whereItIs();
        eightHoles();
        sixTanks();
        ready();
        find();
        hole();
        findTold();
        tank();
        tankTold();
        lift();
        liftBad();
        why();
        takenOut();
        takeRefused();
        whyNotInField();
        whyOtherKind();
        whyNoRoom();
        whyBar();
    }

    private void twentyFinds() {
        sentence(0, "FINDS (20 at most, from 0)");
        for (int i = 0; i < 20; i++) due(x.find(i % 6, i, i % 4, 1 + i % 9), i);
        due(x.find(0, 0, 0, 1), FULL);
        due(x.count(2), 20);
        due(x.findTold(19, 1), 19);
        bad(x.findTold(20, 1));
        // One that has gone out still has its number.
        x.tank(0, 9);
        due(x.lift(0, 0, 0), 1);
        due(x.take(0, 999), 1);
        due(x.find(0, 0, 0, 1), FULL);
        due(x.count(2), 20);
    }

    private void kinds() {
        sentence(0, "have a KIND: 0 FIND, 1 TIMBER under FIND, 2 CASK under FIND, 3 METAL under FIND, 4 SOFT under FIND, 5 NAIL under METAL;");
        bad(x.find(-1, 0, 0, 1), x.find(6, 0, 0, 1), x.find(LOW, 0, 0, 1), x.find(HIGH, 0, 0, 1));
        for (int kind = 0; kind < 6; kind++) due(x.find(kind, 10 + kind, 0, 1), kind);
        String[] under = {"0", "01", "02", "03", "04", "035"};
        for (int kind = 0; kind < 6; kind++) {
            for (int k = 0; k < 6; k++) due(x.taken(kind, k), under[kind].indexOf('0' + k) >= 0 ? 10 + kind : OTHER);
        }
    }

    private void squareLayerSize() {
        sentence(0, "a SQUARE (0 .. 9, 0 .. 9), a LAYER 0 .. 3, a SIZE 1 .. 9.");
        due(x.find(0, 0, 0, 1), 0);
        due(x.find(0, 99, 3, 9), 1);
        due(x.find(0, 9, 0, 1), 2);
        due(x.find(0, 90, 0, 1), 3);
        bad(x.find(0, -1, 0, 1), x.find(0, 100, 0, 1), x.find(0, LOW, 0, 1), x.find(0, HIGH, 0, 1));
        bad(x.find(0, 0, -1, 1), x.find(0, 0, 4, 1), x.find(0, 0, LOW, 1), x.find(0, 0, HIGH, 1));
        bad(x.find(0, 0, 0, 0), x.find(0, 0, 0, 10), x.find(0, 0, 0, LOW), x.find(0, 0, 0, HIGH));
        due(x.count(2), 4);
        due(rule("bar x; bar y;"), 2);
        long[][] places = {{0, 0}, {9, 9}, {9, 0}, {0, 9}};
        for (int find = 0; find < 4; find++) {
            for (int k = 0; k < 2; k++) due(x.worth(find, 0, k), places[find][k]);
        }
    }

    private void whereItIs() {
        sentence(0, "Each is in the FIELD (at first), in a TANK, or gone out of it.");
        x.find(5, 0, 0, 1);
        x.tank(5, 1);
        due(x.count(11), 1);
        due(x.findTold(0, 5), NONE);
        due(x.why(0, 0, 0), 0);
        x.lift(0, 0, 0);
        due(x.count(11), 0);
        due(x.findTold(0, 5), 0);
        due(x.why(0, 0, 0), 1);
        x.take(0, 7);
        due(x.count(11), 0);
        due(x.findTold(0, 5), NONE);
        due(x.why(0, 0, 0), 1);
    }

    private void eightHoles() {
        sentence(0, "TIMBERS have HOLES (8 at most): places 0 .. 99, rising.");
        x.find(1, 0, 0, 1);
        // Told falling, they lie rising all the same: the bonds are those of the places.
        for (int i = 0; i < 8; i++) due(x.hole(0, i == 7 ? 0 : 99 - 12 * i), i + 1);
        due(x.hole(0, 50), FULL);
        due(x.findTold(0, 4), 8);
        timber(0, 27, 39, 51, 63, 75, 87, 99);
        due(x.bond(0, 1, 0), 8);
        due(x.bond(0, 1, 1), 0);
        anew();
        x.find(1, 0, 0, 1);
        bad(x.hole(0, -1), x.hole(0, 100), x.hole(0, LOW), x.hole(0, HIGH));
        due(x.findTold(0, 4), 0);
        due(x.hole(0, 0), 1);
        due(x.hole(0, 99), 2);
    }

    private void sixTanks() {
        sentence(0, "TANKS (6 at most, from 0) are for a KIND (and those under it), with ROOM 1 .. 40 for SIZES.");
        for (int kind = 0; kind < 6; kind++) due(x.tank(kind, kind == 0 ? 40 : 1), kind);
        due(x.tank(0, 1), FULL);
        due(x.count(3), 6);
        bad(x.tankTold(6, 0));
        String[] under = {"0", "01", "02", "03", "04", "035"};
        for (int kind = 0; kind < 6; kind++) {
            x.find(kind, 0, 0, 1);
            for (int tank = 0; tank < 6; tank++) due(x.why(kind, tank, 0), under[kind].indexOf('0' + tank) >= 0 ? 0 : 2);
        }
        anew();
        bad(x.tank(0, 0), x.tank(0, 41), x.tank(0, LOW), x.tank(0, HIGH));
        bad(x.tank(-1, 1), x.tank(6, 1), x.tank(LOW, 1), x.tank(HIGH, 1));
        due(x.count(3), 0);
    }

    private void ready() {
        sentence(0, "A FIND in a TANK is READY so many weeks after it came: of FIND, TIMBER, CASK 4, 8, 6 times its SIZE, METAL 2 times, SOFT 10 times, NAIL 1 time (a week is 7 DAYS).");
        for (int kind = 0; kind < 6; kind++) {
            for (int size = 1; size <= 9; size += 4) {
                anew();
                x.find(kind, 0, 0, size);
                x.tank(kind, 9);
                x.lift(0, 0, 30);
                int day = 30 + 7 * WEEKS[kind] * size;
                due(x.findTold(0, 7), day);
                due(x.take(0, day - 1), STATE);
                due(x.take(0, day), 1);
            }
        }
    }

    private void find() {
        sentence(9, "A FIND: its number. BAD: kind, square (10 y and x: 0 .. 99), layer, size; FULL.");
        for (int i = 0; i < 20; i++) {
            bad(x.find(6, 0, 0, 1));
            due(x.find(5, 99, 3, 9), i);
        }
        // BAD is named ahead of FULL.
        bad(x.find(-1, 0, 0, 1), x.find(6, 0, 0, 1), x.find(0, -1, 0, 1), x.find(0, 100, 0, 1));
        bad(x.find(0, 0, -1, 1), x.find(0, 0, 4, 1), x.find(0, 0, 0, 0), x.find(0, 0, 0, 10));
        due(x.find(0, 0, 0, 1), FULL);
        anew();
        x.find(0, 37, 0, 1);
        rule("bar 10 * y + x; bar x; bar y;");
        due(x.worth(0, 0, 0), 37);
        due(x.worth(0, 0, 1), 7);
        due(x.worth(0, 0, 2), 3);
    }

    private void hole() {
        sentence(10, "A HOLE of a TIMBER: how many. BAD: also another KIND; STATE: there is one; FULL.");
        bad(x.hole(0, 5));
        for (int kind = 0; kind < 6; kind++) x.find(kind, 0, 0, 1);
        for (int kind = 0; kind < 6; kind++) due(x.hole(kind, 5), kind == 1 ? 1 : BAD);
        bad(x.hole(6, 5), x.hole(-1, 5), x.hole(LOW, 5), x.hole(HIGH, 5), x.hole(1, -1), x.hole(1, 100), x.hole(0, 100));
        due(x.hole(1, 5), STATE);
        for (int i = 2; i <= 8; i++) due(x.hole(1, 10 * i), i);
        // There is one comes ahead of FULL, BAD ahead of both.
        for (int i = 2; i <= 8; i++) due(x.hole(1, 10 * i), STATE);
        due(x.hole(1, 6), FULL);
        bad(x.hole(1, 100), x.hole(0, 20));
        due(x.findTold(1, 4), 8);
    }

    private void findTold() {
        sentence(11, "Of a FIND: 0 KIND, 1 SQUARE, 2 LAYER, 3 SIZE, 4 HOLES, 5 its TANK (NONE), 6 the DAY on which it came there (NONE), 7 the first DAY on which it is READY (NONE). BAD.");
        for (int what = -1; what <= 8; what++) bad(x.findTold(0, what));
        x.find(0, 0, 0, 1);
        x.find(1, 98, 3, 9);
        x.hole(1, 4);
        x.hole(1, 2);
        told(1, 1, 98, 3, 9, 2, NONE, NONE, NONE);
        x.tank(0, 9);
        x.tank(1, 9);
        x.lift(1, 1, 0);
        told(1, 1, 98, 3, 9, 2, 1, 0, 504);
        x.take(1, 504);
        told(1, 1, 98, 3, 9, 2, NONE, NONE, NONE);
        told(0, 0, 0, 0, 1, 0, NONE, NONE, NONE);
        bad(x.findTold(0, 8), x.findTold(0, -1), x.findTold(0, LOW), x.findTold(0, HIGH));
        bad(x.findTold(2, 0), x.findTold(-1, 0), x.findTold(LOW, 0), x.findTold(HIGH, 7));
        // It came on the last DAY: no DAY is left on which it is READY, yet the count of weeks goes on.
        x.lift(0, 0, 999);
        told(0, 0, 0, 0, 1, 0, 0, 999, 1027);
        due(x.take(0, 999), STATE);
    }

    private void told(int find, long... dues) {
        for (int what = 0; what < 8; what++) due(x.findTold(find, what), dues[what]);
    }

    private void tank() {
        sentence(12, "A TANK: its number. BAD; FULL.");
        for (int i = 0; i < 6; i++) {
            bad(x.tank(6, 1), x.tank(0, 0));
            due(x.tank(5 - i, i % 2 == 0 ? 1 : 40), i);
        }
        bad(x.tank(6, 1), x.tank(-1, 1), x.tank(0, 0), x.tank(0, 41));
        due(x.tank(0, 1), FULL);
        for (int i = 0; i < 6; i++) {
            due(x.tankTold(i, 0), 5 - i);
            due(x.tankTold(i, 1), i % 2 == 0 ? 1 : 40);
        }
    }

    private void tankTold() {
        sentence(13, "Of a TANK: 0 KIND, 1 ROOM, 2 SIZES of the FINDS in it, 3 how many. BAD.");
        for (int what = -1; what <= 4; what++) bad(x.tankTold(0, what));
        x.tank(0, 40);
        x.tank(4, 12);
        for (int size = 1; size <= 9; size += 2) x.find(4, 0, 0, size);
        for (int find = 0; find < 5; find++) x.lift(find, find % 2, 0);
        contents(0, 0, 40, 15, 3);
        contents(1, 4, 12, 10, 2);
        x.take(0, 70);
        contents(0, 0, 40, 14, 2);
        contents(1, 4, 12, 10, 2);
        bad(x.tankTold(0, 4), x.tankTold(0, -1), x.tankTold(0, LOW), x.tankTold(0, HIGH));
        bad(x.tankTold(2, 0), x.tankTold(-1, 0), x.tankTold(LOW, 0), x.tankTold(HIGH, 0));
    }

    private void contents(int tank, long... dues) {
        for (int what = 0; what < 4; what++) due(x.tankTold(tank, what), dues[what]);
    }

    private void lift() {
        sentence(14, "A FIND is LIFTED: 1; -20 less WHY it is refused.");
        x.tank(3, 9);
        x.find(3, 0, 0, 9);
        x.find(4, 0, 0, 1);
        x.find(5, 0, 0, 1);
        due(x.lift(0, 0, 0), 1);
        due(x.lift(0, 0, 0), -21);
        due(x.lift(1, 0, 0), -22);
        due(x.lift(2, 0, 0), -23);
        x.take(0, 126);
        for (int k = 0; k < 6; k++) {
            rule("bar 0;".repeat(k) + "bar 1;");
            due(x.lift(2, 0, 0), -24 - k);
        }
        due(x.findTold(2, 5), NONE);
        rule("bar 0;".repeat(6));
        due(x.lift(2, 0, 0), 1);
        due(x.findTold(2, 5), 0);
    }

    private void liftBad() {
        sentence(14, "BAD.");
        bad(x.lift(0, 0, 0));
        x.find(0, 0, 0, 1);
        bad(x.lift(0, 0, 0));
        x.tank(0, 1);
        bad(x.lift(1, 0, 0), x.lift(-1, 0, 0), x.lift(LOW, 0, 0), x.lift(HIGH, 0, 0));
        bad(x.lift(0, 1, 0), x.lift(0, -1, 0), x.lift(0, LOW, 0), x.lift(0, HIGH, 0));
        bad(x.lift(0, 0, -1), x.lift(0, 0, 1000), x.lift(0, 0, LOW), x.lift(0, 0, HIGH));
        due(x.count(11), 1);
        due(x.lift(0, 0, 999), 1);
        due(x.findTold(0, 6), 999);
        // BAD is no WHY: it comes ahead of them.
        bad(x.lift(0, 0, 1000), x.lift(0, 1, 0));
    }

    private void why() {
        sentence(15, "WHY lift() would refuse; 0: it would not. BAD.");
        bad(x.why(0, 0, 0));
        x.find(5, 0, 0, 1);
        x.find(1, 0, 0, 1);
        bad(x.why(0, 0, 0));
        x.tank(5, 1);
        bad(x.why(2, 0, 0), x.why(-1, 0, 0), x.why(0, 1, 0), x.why(0, -1, 0), x.why(0, 0, -1), x.why(0, 0, 1000));
        bad(x.why(LOW, 0, 0), x.why(0, HIGH, 0), x.why(0, 0, LOW), x.why(0, 0, HIGH));
        due(x.why(0, 0, 0), 0);
        due(x.why(0, 0, 999), 0);
        due(x.why(1, 0, 0), 2);
        // It only tells: the FIND is where it was.
        due(x.count(11), 2);
        due(x.findTold(0, 5), NONE);
        due(x.lift(0, 0, 0), 1);
        due(x.why(0, 0, 0), 1);
        bad(x.why(0, 0, 1000));
    }

    private void takenOut() {
        sentence(16, "A FIND goes out of its TANK for good (it is neither in it nor in the FIELD): 1.");
        x.find(5, 0, 0, 2);
        x.find(5, 0, 0, 2);
        x.tank(3, 3);
        x.lift(0, 0, 0);
        due(x.lift(1, 0, 0), -23);
        due(x.take(0, 14), 1);
        due(x.tankTold(0, 2), 0);
        due(x.tankTold(0, 3), 0);
        due(x.count(11), 1);
        due(x.count(2), 2);
        due(x.lift(1, 0, 0), 1);
        due(x.lift(0, 0, 20), -21);
        due(x.take(0, 999), STATE);
    }

    private void takeRefused() {
        sentence(16, "BAD; STATE: it is in none, or not READY on that DAY.");
        bad(x.take(0, 0));
        x.find(4, 0, 0, 9);
        x.find(5, 0, 0, 1);
        x.tank(0, 40);
        due(x.take(0, 999), STATE);
        bad(x.take(2, 0), x.take(-1, 0), x.take(LOW, 0), x.take(HIGH, 0));
        bad(x.take(0, -1), x.take(0, 1000), x.take(0, LOW), x.take(0, HIGH));
        x.lift(0, 0, 369);
        x.lift(1, 0, 992);
        bad(x.take(0, 1000), x.take(1, 1000));
        due(x.take(0, 998), STATE);
        due(x.take(0, 0), STATE);
        due(x.take(0, 999), 1);
        due(x.take(1, 998), STATE);
        due(x.take(1, 999), 1);
        due(x.take(1, 999), STATE);
        // One that is never READY on any DAY.
        x.find(5, 0, 0, 1);
        x.lift(2, 0, 993);
        due(x.take(2, 999), STATE);
    }

    private void whyNotInField() {
        sentence(0, "A FIND is LIFTED on a DAY into a TANK. It is refused with WHY: 1 it is not in the FIELD;");
        x.find(5, 0, 0, 1);
        x.tank(5, 1);
        x.tank(1, 1);
        rule("bar day = 1;");
        due(x.why(0, 0, 0), 0);
        x.lift(0, 0, 0);
        // In a TANK, and gone: the least that holds, though the KIND is another one, no ROOM is left and a bar holds.
        due(x.why(0, 0, 1), 1);
        due(x.why(0, 1, 1), 1);
        x.take(0, 7);
        due(x.why(0, 0, 1), 1);
        due(x.why(0, 1, 0), 1);
    }

    private void whyOtherKind() {
        sentence(0, "2 the TANK is not for its KIND;");
        x.find(3, 0, 0, 2);
        x.tank(5, 1);
        x.tank(3, 2);
        x.tank(4, 40);
        rule("bar 1;");
        // A TANK for a KIND under its own is none for it.
        due(x.why(0, 0, 0), 2);
        due(x.why(0, 2, 0), 2);
        due(x.why(0, 1, 0), 4);
    }

    private void whyNoRoom() {
        sentence(0, "3 no ROOM: SIZES of the FINDS in it and its own are more;");
        for (int size = 1; size <= 9; size++) x.find(0, 0, 0, size);
        x.find(1, 0, 0, 9);
        x.tank(0, 15);
        x.tank(1, 8);
        due(x.why(8, 0, 0), 0);
        x.lift(8, 0, 0);
        due(x.why(5, 0, 0), 0);
        due(x.why(6, 0, 0), 3);
        rule("bar 1;");
        due(x.why(5, 0, 0), 4);
        due(x.why(6, 0, 0), 3);
        due(x.why(9, 1, 0), 3);
        rule("");
        x.lift(5, 0, 0);
        due(x.tankTold(0, 2), 15);
        due(x.why(0, 0, 0), 3);
        due(x.lift(0, 0, 0), -23);
    }

    private void whyBar() {
        sentence(0, "4 + k: bar k of THE RULE holds, the first one; the least that holds.");
        x.find(0, 0, 0, 1);
        x.tank(0, 1);
        rule("bar day = 1; bar day < 3; bar -(day = 4); bar 0; bar day = 2; bar day * 4096 * 4096 * 256;");
        due(x.why(0, 0, 0), 5);
        due(x.why(0, 0, 1), 4);
        due(x.why(0, 0, 2), 5);
        due(x.why(0, 0, 3), 0);
        due(x.why(0, 0, 4), 6);
        due(x.why(0, 0, 5), 0);
        due(x.lift(0, 0, 4), -26);
        due(x.lift(0, 0, 3), 1);
        // What is not 0 is true, also below 0; what has wrapped to 0 is not.
        anew();
        x.find(0, 0, 0, 1);
        x.tank(0, 1);
        rule("bar -1;");
        due(x.why(0, 0, 0), 4);
        rule("bar 4096 * 4096 * 256;");
        due(x.why(0, 0, 0), 0);
    }
}
