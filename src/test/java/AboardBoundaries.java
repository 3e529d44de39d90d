/** The sentences on what stood ABOARD, and on SHEETS: the last parts of the terms, and promises 33 to 41. */
final class AboardBoundaries extends Checks {
    AboardBoundaries(Document document) {
        super(document);
    }

    @Override
    void run() {
        hatchesUnderDecks();
        cameDown();
        rolled();
        mayHaveStood();
        hatches();
        roll();
        stood();
        stoodAt();
        count();
        fourSheets();
        sheet();
        sheetRefused();
        cell();
        cellRefused();
        none();
        taken();
        takenRefused();
    }

    /** All ways in which a FIND may have STOOD. */
    private void ways(int find, int... dues) {
        due(x.stood(find), dues.length);
        for (int i = 0; i < dues.length; i++) due(x.stoodAt(find, i), dues[i]);
        due(x.stoodAt(find, dues.length), NONE);
    }

    /** A FIND at x in each LAYER. */
    private void inEachLayer(int place) {
        for (int layer = 0; layer < 4; layer++) x.find(0, place, layer, 1);
    }

    private void hatchesUnderDecks() {
        sentence(0, "ABOARD: DECKS 0 .. 4, a HATCH under each of DECKS 1 .. 4, open or not (none at first).");
        inEachLayer(6);
        ways(0, 6, 16, 26, 36, 46);
        for (int layer = 1; layer < 4; layer++) ways(layer);
        due(x.hatches(0), 0);
        // Each one alone: from that DECK it came down by one.
        for (int deck = 1; deck <= 4; deck++) {
            x.hatches(1 << deck);
            due(x.stood(0), 4);
            ways(1, 10 * deck + 6);
            ways(2);
            ways(3);
        }
        bad(x.hatches(1), x.hatches(32));
    }

    private void cameDown() {
        sentence(0, "What stood on a DECK at x (0 .. 9) came down by one DECK as long as the HATCH under that on which it was was open;");
        inEachLayer(6);
        // Under 2 and 3: from 3 by two, from 2 by one; 4 and 1 stay.
        x.hatches(12);
        ways(0, 6, 16, 46);
        ways(1, 26);
        ways(2, 36);
        ways(3);
        // Under 4 and 2: each by one.
        x.hatches(20);
        ways(0, 6, 16, 36);
        ways(1, 26, 46);
        ways(2);
        // Under 2, 3, 4: from 4 by three, to DECK 1.
        x.hatches(28);
        ways(0, 6, 16);
        ways(1, 26);
        ways(2, 36);
        ways(3, 46);
        // Shut again.
        x.hatches(0);
        ways(0, 6, 16, 26, 36, 46);
    }

    private void rolled() {
        sentence(0, "with c DECKS that it came down, it lay at x and c times ROLL (-9 .. 9; 0 at first), in LAYER c, 3 at most.");
        inEachLayer(9);
        inEachLayer(0);
        x.hatches(30);
        // By 4 DECKS it came into LAYER 3, as by 3.
        ways(0, 9);
        ways(1, 19);
        ways(2, 29);
        ways(3, 39, 49);
        ways(7, 30, 40);
        due(x.roll(9), 0);
        ways(0, 9);
        ways(1, 10);
        ways(2);
        ways(3);
        ways(5);
        due(x.roll(-9), 9);
        ways(1);
        ways(4, 0);
        ways(5, 19);
        ways(6);
        x.roll(2);
        ways(2, 25);
        ways(3, 33, 41);
        x.roll(3);
        ways(2, 23);
        ways(3, 30);
        x.roll(-2);
        ways(6, 24);
        ways(7, 36, 48);
        x.roll(-3);
        ways(7, 39);
        x.roll(-4);
        ways(7);
        ways(6, 28);
        bad(x.roll(-10), x.roll(10));
    }

    private void mayHaveStood() {
        sentence(0, "A FIND may have STOOD on a DECK at x, if by this it lay in the x of its SQUARE, in its LAYER.");
        // The x of its SQUARE, whatever its y.
        for (int y = 0; y < 10; y += 3) x.find(5, 10 * y + 4, 1, 1);
        x.hatches(2);
        for (int find = 0; find < 4; find++) ways(find, 14);
        x.roll(1);
        for (int find = 0; find < 4; find++) ways(find, 13);
        // From x 0 and x 9, and not from one beyond.
        x.roll(4);
        ways(0, 10);
        x.roll(5);
        ways(0);
        x.roll(-5);
        ways(0, 19);
        x.roll(-6);
        ways(0);
    }

    private void hatches() {
        sentence(33, "HATCHES that are open (bits 1 .. 4; bit d: the one under DECK d): what they were. BAD.");
        int was = 0;
        for (int bits = 0; bits <= 30; bits += 2) {
            bad(x.hatches(bits + 1));
            due(x.hatches(bits), was);
            was = bits;
        }
        bad(x.hatches(1), x.hatches(31), x.hatches(32), x.hatches(34), x.hatches(64), x.hatches(-1), x.hatches(-2), x.hatches(-32));
        bad(x.hatches(LOW), x.hatches(HIGH), x.hatches(LOW + 2), x.hatches(1 << 30));
        due(x.hatches(0), 30);
    }

    private void roll() {
        sentence(34, "ROLL: what it was. BAD.");
        due(x.roll(-9), 0);
        bad(x.roll(-10), x.roll(10), x.roll(LOW), x.roll(HIGH));
        due(x.roll(9), -9);
        due(x.roll(0), 9);
        due(x.roll(0), 0);
    }

    private void stood() {
        sentence(35, "In how many ways a FIND may have STOOD. BAD.");
        bad(x.stood(0));
        inEachLayer(0);
        due(x.stood(0), 5);
        due(x.stood(1), 0);
        bad(x.stood(4), x.stood(-1), x.stood(LOW), x.stood(HIGH));
        x.hatches(30);
        due(x.stood(0), 1);
        due(x.stood(3), 2);
        // Where the FIND is now does not matter.
        x.tank(0, 1);
        x.lift(3, 0, 0);
        due(x.stood(3), 2);
        x.take(3, 28);
        due(x.stood(3), 2);
    }

    private void stoodAt() {
        sentence(36, "Of the i-th of these, by DECK, then x: 10 times the DECK, and x. NONE: none such. BAD.");
        bad(x.stoodAt(0, 0));
        x.find(0, 7, 0, 1);
        x.find(0, 7, 3, 1);
        for (int i = 0; i < 5; i++) due(x.stoodAt(0, i), 10 * i + 7);
        for (int i : new int[] {5, -1, LOW, HIGH}) due(x.stoodAt(0, i), NONE);
        due(x.stoodAt(1, 0), NONE);
        bad(x.stoodAt(2, 0), x.stoodAt(-1, 0), x.stoodAt(LOW, 0), x.stoodAt(HIGH, 0), x.stoodAt(2, -1));
        x.hatches(30);
        x.roll(1);
        due(x.stoodAt(1, 0), 34);
        due(x.stoodAt(1, 1), 43);
        due(x.stoodAt(1, 2), NONE);
        due(x.stoodAt(1, -1), NONE);
    }

    private void counts(long... dues) {
        for (int what = 0; what <= 12; what++) due(x.count(what), dues[what]);
    }

    private void count() {
        sentence(37, "How many: 0 MARKS, 1 TAPES, 2 FINDS, 3 TANKS, 4 DIVERS, 5 ROWS, 6 DIVES, 7 bytes of THE TAPE, 8 bars of THE RULE, 9 TASKS, 10 GANGS, 11 FINDS in the FIELD, 12 TAPES that are OUT by THE FIT. BAD.");
        counts(0, 0, 0, 0, 0, 0, 0, 0, 0, 0, 0, 0, 0);
        bad(x.count(-1), x.count(13), x.count(LOW), x.count(HIGH));
        marks(6);
        marks(2);
        for (int i = 0; i < 24; i++) x.tape(0, 1, i < 22 ? 1 : 1000);
        for (int i = 0; i < 20; i++) x.find(5, 0, 0, 1);
        for (int i = 0; i < 6; i++) x.tank(0, 40);
        divers(6);
        for (int i = 1; i <= 8; i++) x.row(i, 5, 5);
        for (int i = 0; i < 40; i++) x.dive(0, 1, 100 * i, 1, 1);
        rule("bar 0;bar 0;bar 0;bar 0;bar 0;bar 0;");
        feed(" ".repeat(160));
        for (int i = 0; i < 9; i++) x.task(1, 1);
        for (int i = 0; i < 4; i++) x.gang(5);
        counts(8, 24, 20, 6, 6, 8, 40, 160, 6, 9, 4, 20, 22);
        x.bar(999);
        for (int i = 0; i < 3; i++) x.lift(i, 0, 0);
        x.take(0, 7);
        x.cancel();
        x.rule();
        counts(8, 24, 20, 6, 6, 8, 39, 0, 0, 9, 4, 17, 0);
        bad(x.count(-1), x.count(13));
    }

    private void fourSheets() {
        sentence(0, "SHEETS 0 .. 3 are rows of numbers, or missing (as all are at first): of sort 0 bytes, 1 shorts, 2 floats.");
        for (int sheet = 0; sheet < 4; sheet++) {
            due(x.cell(sheet, 0, 0), NOTHING);
            due(x.none(sheet, 0), NOTHING);
            due(x.tapes(sheet, 0, 0), NOTHING);
        }
        bad(x.sheet(-1, 0, 1), x.sheet(4, 0, 1), x.cell(4, 0, 0), x.none(4, 0), x.tapes(4, 0, 0));
        // One does not touch another.
        for (int sheet = 0; sheet < 3; sheet++) due(x.sheet(sheet, sheet, 3 + sheet), 1);
        for (int sheet = 0; sheet < 3; sheet++) {
            due(x.cell(sheet, 2 + sheet, 0), 1);
            due(x.cell(sheet, 3 + sheet, 0), OUTSIDE);
            due(x.none(sheet, 0), sheet == 2 ? 1 : OTHER);
            due(x.tapes(sheet, 0, 0), sheet == 2 ? 0 : OTHER);
        }
        due(x.cell(3, 0, 0), NOTHING);
    }

    private void sheet() {
        sentence(38, "A SHEET becomes a row of n of a sort, all 0, or missing (sort -1: n does not matter): 1.");
        for (int n : new int[] {0, 1, 39, 40}) {
            for (int sort = 0; sort < 3; sort++) {
                due(x.sheet(1, sort, n), 1);
                due(x.cell(1, n, 0), OUTSIDE);
                if (n > 0) due(x.cell(1, n - 1, 0), 1);
            }
        }
        for (int n : new int[] {0, -1, 41, LOW, HIGH}) {
            x.sheet(1, 2, 3);
            due(x.sheet(1, -1, n), 1);
            due(x.cell(1, 0, 0), NOTHING);
        }
        due(x.sheet(1, -1, 0), 1);
        // All 0, whatever stood there: 0 and 0 are no two MARKS, with a 1 and a length they are.
        marks(2);
        floats(0, 2, 2, 2, 2, 2, 2);
        for (int i = 0; i < 6; i++) x.none(0, i);
        due(x.tapes(0, 0, 2), 0);
        due(x.sheet(0, 2, 6), 1);
        bad(x.tapes(0, 0, 1), x.tapes(0, 3, 1));
        x.cell(0, 4, 2);
        bad(x.tapes(0, 3, 1));
        x.cell(0, 5, 2);
        due(x.tapes(0, 3, 1), 1);
        due(x.tapeTold(0, 0), 0);
        // What bytes or shorts held is gone as well.
        for (int sort = 0; sort < 2; sort++) {
            x.sheet(0, sort, 3);
            for (int i = 0; i < 3; i++) x.cell(0, i, 77);
            x.sheet(0, 2, 3);
            x.cell(0, 1, 2);
            x.cell(0, 2, 10);
            due(x.tapes(0, 0, 1), 2 + sort);
            due(x.tapeTold(1 + sort, 0), 0);
        }
    }

    private void sheetRefused() {
        sentence(38, "BAD: no such SHEET, sort; n above 40; -14.");
        bad(x.sheet(-1, 0, 1), x.sheet(4, 0, 1), x.sheet(LOW, 0, 1), x.sheet(HIGH, 0, 1), x.sheet(4, -1, 0), x.sheet(-1, -1, 0));
        bad(x.sheet(0, -2, 1), x.sheet(0, 3, 1), x.sheet(0, LOW, 1), x.sheet(0, HIGH, 1));
        bad(x.sheet(0, 0, 41), x.sheet(0, 1, 41), x.sheet(0, 2, HIGH));
        due(x.sheet(0, 0, -1), BELOW);
        due(x.sheet(0, 1, -1), BELOW);
        due(x.sheet(0, 2, LOW), BELOW);
        bad(x.sheet(4, 0, -1), x.sheet(0, 3, -1), x.sheet(0, -2, -1), x.sheet(4, 0, 41));
        due(x.cell(0, 0, 0), NOTHING);
        // A refused one leaves the row that was.
        x.sheet(0, 2, 5);
        bad(x.sheet(0, 0, 41), x.sheet(0, 3, 2));
        due(x.sheet(0, 1, -1), BELOW);
        due(x.none(0, 4), 1);
        due(x.none(0, 5), OUTSIDE);
    }

    private void cell() {
        sentence(39, "Item i of a SHEET becomes v (of bytes, shorts its lowest 8, 16 bits; of floats v halves): 1.");
        for (int sort = 0; sort < 3; sort++) {
            x.sheet(sort, sort, 40);
            due(x.cell(sort, 0, 40000), 1);
            due(x.cell(sort, 39, -40000), 1);
            due(x.cell(sort, 20, 0), 1);
        }
        // Halves: 3 is 1.5, which is cut to 1. Floats keep more than 16 bits: 40000 is 20000, too long; -35536 is not 15000.
        marks(2);
        int[][] rows = {{0, 3, 3, 0}, {0, 2, 40000, BAD}, {0, 2, -40000, BAD}, {0, 2, -35536, BAD}, {0, 2, 30001, 1}, {65536 - 40000, 2, 5, BAD}};
        for (int[] told : rows) {
            floats(3, told[0], told[1], told[2]);
            due(x.tapes(3, 0, 1), told[3] < 0 ? told[3] : told[3] + 1);
        }
        due(x.tapeTold(0, 2), 1);
        due(x.tapeTold(1, 2), 15000);
        // Each v is a number of its own, and none of them is no number.
        for (int v = -40000; v <= 40000; v++) {
            if ((v + 40000) % 20 == 0) {
                anew();
                marks(2);
                floats(3, 0, 2, 0);
            }
            x.cell(3, 2, v);
            int before = x.count(1);
            due(x.tapes(3, 0, 1), v >= 2 && v <= 30001 ? before + 1 : BAD);
        }
        anew();
        marks(2);
        for (int i = 0; i < 2; i++) x.tape(0, 1, 1);
        // Item i alone, and a number where none was.
        floats(3, 2, 0, 8, 0, 2, 10);
        x.none(3, 1);
        x.cell(3, 1, 1);
        due(x.tapes(3, 0, 2), 4);
        due(x.tapeTold(2, 0), 1);
        due(x.tapeTold(2, 1), 0);
        due(x.tapeTold(2, 2), 4);
        due(x.tapeTold(3, 2), 5);
    }

    private void cellRefused() {
        sentence(39, "BAD: no such SHEET, v is not -40000 .. 40000; -11; -12.");
        bad(x.cell(-1, 0, 0), x.cell(4, 0, 0), x.cell(LOW, 0, 0), x.cell(HIGH, 0, 0));
        bad(x.cell(0, 0, 40001), x.cell(0, 0, -40001), x.cell(0, 0, LOW), x.cell(0, 0, HIGH));
        due(x.cell(0, 0, 40000), NOTHING);
        due(x.cell(0, -1, 0), NOTHING);
        for (int sort = 0; sort < 3; sort++) {
            x.sheet(0, sort, 3);
            for (int i : new int[] {-1, 3, 40, LOW, HIGH}) due(x.cell(0, i, 0), OUTSIDE);
            bad(x.cell(0, 3, 40001), x.cell(0, -1, -40001), x.cell(0, 0, 40001), x.cell(4, 3, 0));
            due(x.cell(0, 2, -40000), 1);
        }
        // 40 was the size once: it is 3 now.
        x.sheet(0, 0, 40);
        x.sheet(0, 0, 3);
        due(x.cell(0, 3, 0), OUTSIDE);
    }

    private void none() {
        sentence(40, "Item i of a SHEET of floats becomes no number: 1. BAD: no such SHEET; -13; -11; -12.");
        bad(x.none(-1, 0), x.none(4, 0), x.none(LOW, 0), x.none(HIGH, 0));
        due(x.none(0, 0), NOTHING);
        due(x.none(0, -1), NOTHING);
        for (int sort = 0; sort < 2; sort++) {
            x.sheet(0, sort, 3);
            due(x.none(0, 0), OTHER);
            due(x.none(0, 3), OTHER);
            due(x.none(0, -1), OTHER);
        }
        x.sheet(0, 2, 3);
        for (int i : new int[] {-1, 3, 40, LOW, HIGH}) due(x.none(0, i), OUTSIDE);
        due(x.none(0, 0), 1);
        due(x.none(0, 2), 1);
        due(x.none(0, 2), 1);
        // That item alone is none.
        marks(2);
        floats(1, 0, 2, 10, 0, 2, 20);
        due(x.none(1, 2), 1);
        due(x.tapes(1, 0, 1), 0);
        due(x.tapes(1, 3, 1), 1);
        due(x.tapeTold(0, 2), 10);
        x.cell(1, 2, 30);
        due(x.tapes(1, 0, 1), 2);
        due(x.tapeTold(1, 2), 15);
        x.sheet(2, 2, 0);
        due(x.none(2, 0), OUTSIDE);
    }

    private void taken() {
        sentence(41, "A FIND taken for one of KIND k (0 .. 5), or one under that one (also by others between): its SQUARE.");
        for (int kind = 0; kind < 6; kind++) x.find(kind, 99 - kind, 0, 1);
        for (int kind = 0; kind < 6; kind++) {
            due(x.taken(kind, kind), 99 - kind);
            due(x.taken(kind, 0), 99 - kind);
        }
        // NAIL is under FIND by METAL; METAL is not under NAIL.
        due(x.taken(5, 3), 94);
        due(x.taken(3, 5), OTHER);
        // SQUARE 0 is no refusal.
        x.find(5, 0, 0, 1);
        due(x.taken(6, 0), 0);
        // Also one that is in a TANK, or gone.
        x.tank(0, 1);
        x.lift(5, 0, 0);
        due(x.taken(5, 0), 94);
        x.take(5, 7);
        due(x.taken(5, 5), 94);
    }

    private void takenRefused() {
        sentence(41, "BAD: k; -11: no such FIND; -13.");
        bad(x.taken(0, -1), x.taken(0, 6), x.taken(0, LOW), x.taken(0, HIGH), x.taken(-1, 6));
        due(x.taken(0, 0), NOTHING);
        due(x.taken(0, 5), NOTHING);
        x.find(0, 0, 0, 1);
        for (int k = 1; k < 6; k++) due(x.taken(0, k), OTHER);
        for (int find : new int[] {1, -1, LOW, HIGH}) due(x.taken(find, 0), NOTHING);
        bad(x.taken(0, -1), x.taken(0, 6), x.taken(1, -1));
    }
}
