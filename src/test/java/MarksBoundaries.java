/** The sentences on MARKS, TAPES and THE FIT: the first part of the terms, and promises 1 to 8. */
final class MarksBoundaries extends Checks {
    MarksBoundaries(Document document) {
        super(document);
    }

    @Override
    void run() {
        eightMarks();
        toldPlaces();
        twentyFourTapes();
        noneOutAtFirst();
        cutRoot();
        beginAtTold();
        steps();
        ninePlaces();
        likePlaces();
        theBar();
        greaterThanTheBar();
        fittedAnew();
        newObject();
        mark();
        tape();
        tapesThreeByThree();
        tapesNotHad();
        tapesCount();
        tapesRefused();
        tapesThatCameAhead();
        bar();
        fit();
        tapeTold();
        sum();
    }

    private void eightMarks() {
        sentence(0, "MARKS (8 at most, numbered from 0)");
        for (int i = 0; i < 8; i++) due(x.mark(i, -i, false), i);
        due(x.mark(0, 0, false), FULL);
        due(x.mark(0, 0, true), FULL);
        due(x.count(0), 8);
        due(x.fit(0, 0), 0);
        due(x.fit(7, 0), 7);
        due(x.fit(7, 1), -7);
        no(x.fit(8, 0), x.fit(-1, 0));
    }

    private void toldPlaces() {
        sentence(0, "have a told X, Y (-5000 .. 5000); some are FIXED.");
        due(x.mark(-5000, 5000, true), 0);
        due(x.mark(5000, -5000, false), 1);
        bad(x.mark(-5001, 0, false), x.mark(5001, 0, false), x.mark(0, -5001, false), x.mark(0, 5001, false));
        bad(x.mark(LOW, 0, true), x.mark(HIGH, 0, true), x.mark(0, LOW, true), x.mark(0, HIGH, true));
        due(x.fit(0, 0), -5000);
        due(x.fit(0, 1), 5000);
        due(x.fit(1, 0), 5000);
        due(x.fit(1, 1), -5000);
        // Only the one that is not FIXED goes, whichever was told first.
        for (int free = 0; free < 2; free++) {
            anew();
            x.mark(0, 0, free == 1);
            x.mark(0, 0, free == 0);
            x.tape(0, 1, 512);
            due(x.fit(free, 0), -512);
            due(x.fit(1 - free, 0), 0);
        }
        // Both FIXED: the MISS stays, however large.
        anew();
        x.mark(-5000, -5000, true);
        x.mark(5000, 5000, true);
        x.bar(15000);
        x.tape(0, 1, 1);
        due(x.tapeTold(0, 4), 14141);
        due(x.fit(1, 0), 5000);
    }

    private void twentyFourTapes() {
        sentence(0, "TAPES (24 at most, from 0) tell of two MARKS a length 1 .. 15000;");
        marks(2);
        for (int i = 0; i < 24; i++) due(x.tape(i % 2, 1 - i % 2, i % 3 == 0 ? 1 : 15000), i);
        due(x.tape(0, 1, 1), FULL);
        due(x.count(1), 24);
        due(x.tapeTold(23, 2), 15000);
        due(x.tapeTold(21, 2), 1);
        no(x.tapeTold(24, 2));
        anew();
        marks(2);
        bad(x.tape(0, 1, 0), x.tape(0, 1, -1), x.tape(0, 1, 15001), x.tape(0, 1, LOW), x.tape(0, 1, HIGH));
        due(x.count(1), 0);
        // All 24 at one MARK that goes.
        anew();
        x.mark(0, 0, true);
        x.mark(0, 0, false);
        for (int i = 0; i < 24; i++) due(x.tape(i % 2, 1 - i % 2, 512), i);
        due(x.fit(1, 0), -512);
        due(x.sum(), 0);
    }

    private void noneOutAtFirst() {
        sentence(0, "a TAPE may be OUT (none at first).");
        due(x.count(12), 0);
        marks(2);
        x.tape(0, 1, 900);
        due(x.tapeTold(0, 3), 0);
        due(x.count(12), 0);
        x.tape(0, 1, 899);
        due(x.tapeTold(0, 3), 0);
        due(x.tapeTold(1, 3), 1);
        due(x.count(12), 1);
    }

    private void cutRoot() {
        sentence(0, "AT a place a TAPE's MISS is the cut square root of (the square of the difference in X, and of that in Y, of its MARKS), less its length.");
        // Differences in X and Y, and the cut root: at a square, one below and one above it, and at the least and the greatest.
        int[][] rows = {{0, 0, 0}, {1, 0, 1}, {1, 1, 1}, {2, 2, 2}, {3, 0, 3}, {3, 1, 3}, {12, 12, 16}, {17, 0, 17}, {17, 1, 17},
            {70, 70, 98}, {99, 0, 99}, {2378, 2378, 3362}, {3363, 0, 3363}, {10000, 10000, 14142}, {10000, 0, 10000},
            {9999, 141, 9999}, {9999, 142, 10000}, {3, 4, 5}, {4, 3, 5}, {6000, 8000, 10000}, {5999, 8000, 9999}};
        for (int[] told : rows) {
            for (int length : new int[] {1, 100, 15000}) {
                for (int sign = -1; sign <= 1; sign += 2) {
                    int away = sign * (told[0] - 5000);
                    anew();
                    x.mark(-sign * 5000, 5000, true);
                    x.mark(away, 5000 - told[1], true);
                    x.tape(0, 1, length);
                    x.tape(1, 0, length);
                    due(x.tapeTold(0, 4), told[2] - length);
                    due(x.tapeTold(1, 4), told[2] - length);
                }
            }
        }
    }

    private void beginAtTold() {
        sentence(0, "A FIT: all MARKS begin at their told X, Y.");
        x.mark(123, -456, false);
        x.mark(-4999, 4999, false);
        x.mark(0, 0, true);
        due(x.fit(0, 0), 123);
        due(x.fit(0, 1), -456);
        due(x.fit(1, 0), -4999);
        due(x.fit(1, 1), 4999);
        // A FIT does not go on from the last one: what one TAPE drew away is back when it is OUT.
        x.bar(15000);
        x.tape(0, 2, 5000);
        due(x.tapeTold(0, 4), 0);
        x.tape(0, 2, 1);
        x.bar(1);
        x.bar(15000);
        long first = x.fit(0, 0);
        x.bar(1);
        x.fit(0, 0);
        x.bar(15000);
        due(x.fit(0, 0), first);
    }

    private void steps() {
        sentence(0, "For steps s = 512, 256, 128, .., 2, 1, each 4 times:");
        // As far as it can go: 4 times all steps is 4092, in X, in Y, or in both.
        x.mark(-5000, 0, true);
        x.mark(5000, 0, false);
        x.bar(15000);
        x.tape(0, 1, 1);
        due(x.fit(1, 0), 5000 - 4092);
        // Up to 108 the cut root of 5908 and that in Y is 5908: of like places it was the least Y.
        due(x.fit(1, 1), -108);
        anew();
        x.mark(0, -5000, true);
        x.mark(0, 5000, false);
        x.bar(15000);
        x.tape(0, 1, 1);
        due(x.fit(1, 0), -108);
        due(x.fit(1, 1), 5000 - 4092);
        anew();
        x.mark(0, 0, true);
        x.mark(0, 0, false);
        x.bar(15000);
        x.tape(0, 1, 15000);
        due(x.fit(1, 0), -4092);
        due(x.fit(1, 1), -4092);
        due(x.tapeTold(0, 4), 5786 - 15000);
        // With 512 alone 4 times it comes to 2048 from where it was, and the rest by smaller ones: a place that all steps make up.
        for (int far : new int[] {1, 2, 3, 7, 511, 512, 513, 1023, 2047, 2048, 2049, 4091, 4092}) {
            anew();
            x.mark(-5000, 0, true);
            x.mark(0, 0, false);
            x.tape(0, 1, 5000 - far);
            x.bar(15000);
            due(x.tapeTold(0, 4), 0);
        }
        anew();
        x.mark(-5000, 0, true);
        x.mark(0, 0, false);
        x.tape(0, 1, 5000 - 4093);
        due(x.tapeTold(0, 4), 1);
    }

    private void ninePlaces() {
        sentence(0, "each MARK that is not FIXED, in order, goes to that of these nine places (its own, or X and Y each less s, as it is, or s more) at which the sum of the squares of the MISSES of its TAPES that are not OUT is the least;");
        // In order: MARK 0 has gone when MARK 1 looks.
        x.mark(0, 0, false);
        x.mark(0, 0, false);
        x.tape(1, 0, 512);
        due(x.fit(0, 0), -512);
        due(x.fit(0, 1), 0);
        due(x.fit(1, 0), 0);
        due(x.fit(1, 1), 0);
        // Each of the eight ways, and the way that stays.
        for (int dx = -1; dx <= 1; dx++) {
            for (int dy = -1; dy <= 1; dy++) {
                anew();
                x.mark(0, 0, false);
                x.mark(512 * dx - 600, 512 * dy, true);
                x.mark(512 * dx + 600, 512 * dy, true);
                x.mark(512 * dx, 512 * dy - 600, true);
                x.mark(512 * dx, 512 * dy + 600, true);
                for (int i = 1; i <= 4; i++) x.tape(0, i, 600);
                due(x.fit(0, 0), 512 * dx);
                due(x.fit(0, 1), 512 * dy);
                due(x.sum(), 0);
            }
        }
        // The squares: between 100 and 500 the sizes of both MISSES come to 400 everywhere, the squares are least at 300.
        anew();
        x.mark(0, 0, true);
        x.mark(1000, 0, true);
        x.mark(320, 0, false);
        x.tape(0, 2, 100);
        x.tape(1, 2, 500);
        x.bar(200);
        due(x.fit(2, 0), 300);
        due(x.sum(), 80000);
        // Its own TAPES alone: one between two others does not matter.
        x.tape(0, 1, 1100);
        due(x.fit(2, 0), 300);
        due(x.sum(), 90000);
    }

    private void likePlaces() {
        sentence(0, "of like ones its own, else the one with the least X, then the least Y.");
        // Its own: the cut root is 1000 also one above and one below.
        x.mark(0, 0, true);
        x.mark(1000, 0, false);
        x.tape(0, 1, 1000);
        due(x.fit(1, 0), 1000);
        due(x.fit(1, 1), 0);
        // Four like places at 512: the least X.
        anew();
        x.mark(0, 0, true);
        x.mark(0, 0, false);
        x.tape(0, 1, 512);
        due(x.fit(1, 0), -512);
        due(x.fit(1, 1), 0);
        // Four like places at 724: the least X, then the least Y.
        anew();
        x.mark(0, 0, true);
        x.mark(0, 0, false);
        x.tape(0, 1, 724);
        due(x.fit(1, 0), -512);
        due(x.fit(1, 1), -512);
        // Two like places with one X: the least Y.
        anew();
        x.mark(-2000, 0, true);
        x.mark(-5000, 0, true);
        x.mark(0, 0, false);
        x.tape(0, 2, 1573);
        x.tape(1, 2, 4517);
        due(x.fit(2, 0), -512);
        due(x.fit(2, 1), -512);
    }

    private void theBar() {
        sentence(0, "THE BAR (1 .. 15000; 100 at first):");
        due(x.bar(1), 100);
        due(x.bar(15000), 1);
        due(x.bar(15000), 15000);
        bad(x.bar(0), x.bar(15001), x.bar(-1), x.bar(LOW), x.bar(HIGH));
        due(x.bar(7), 15000);
        anew();
        marks(2);
        x.tape(0, 1, 900);
        x.tape(0, 1, 1100);
        due(x.count(12), 0);
        x.tape(0, 1, 899);
        due(x.count(12), 1);
        x.tape(0, 1, 1101);
        due(x.count(12), 2);
    }

    private void greaterThanTheBar() {
        sentence(0, "if, when that is done, a TAPE that is not OUT has a MISS of a greater size than THE BAR, the one whose MISS has the greatest size, of like ones the one with the least number, is OUT,");
        marks(2);
        x.tape(0, 1, 950);
        x.tape(0, 1, 1050);
        x.bar(50);
        due(x.count(12), 0);
        x.bar(49);
        due(x.count(12), 2);
        // One at a time: with the worst one OUT the other one fits. Of like ones the least number is the worst.
        anew();
        x.mark(0, 0, true);
        x.mark(1000, 0, false);
        x.tape(0, 1, 1000);
        x.tape(0, 1, 3000);
        due(x.tapeTold(0, 3), 1);
        due(x.tapeTold(1, 3), 0);
        due(x.tapeTold(1, 4), 0);
        due(x.count(12), 1);
        anew();
        x.mark(0, 0, true);
        x.mark(1000, 0, false);
        x.tape(0, 1, 3000);
        x.tape(0, 1, 1000);
        due(x.tapeTold(0, 3), 1);
        due(x.tapeTold(1, 3), 0);
        due(x.fit(1, 0), 1000);
        // The greatest size, not the first one above THE BAR: two that agree keep the third away.
        anew();
        x.mark(0, 0, true);
        x.mark(1000, 0, false);
        x.tape(0, 1, 1000);
        x.tape(0, 1, 1000);
        x.tape(1, 0, 3000);
        due(x.tapeTold(0, 3), 0);
        due(x.tapeTold(1, 3), 0);
        due(x.tapeTold(2, 3), 1);
        due(x.tapeTold(2, 4), -2000);
    }

    private void fittedAnew() {
        sentence(0, "and all is fitted anew (from the told places); else it is done.");
        x.mark(-5000, 0, true);
        x.mark(5000, 0, false);
        x.tape(0, 1, 1);
        x.bar(5907);
        due(x.fit(1, 0), 908);
        due(x.tapeTold(0, 3), 0);
        x.bar(5906);
        due(x.fit(1, 0), 5000);
        due(x.tapeTold(0, 3), 1);
        due(x.tapeTold(0, 4), 9999);
        // All 24 OUT, one by one, and then it is done.
        anew();
        marks(2);
        for (int i = 0; i < 24; i++) x.tape(0, 1, 1101 + i);
        due(x.count(12), 24);
        due(x.sum(), 0);
        x.bar(101);
        due(x.count(12), 23);
        due(x.tapeTold(0, 3), 0);
        x.bar(123);
        due(x.count(12), 1);
        x.bar(124);
        due(x.count(12), 0);
    }

    private void newObject() {
        sentence(1, "Nothing at all.");
        for (int what = 0; what <= 12; what++) due(x.count(what), 0);
        due(x.sum(), 0);
        due(x.plan(), 0);
        due(x.bar(1), 100);
        due(x.hatches(2), 0);
        due(x.roll(1), 0);
        due(x.cancel(), STATE);
        due(x.rule(), 0);
        no(x.fit(0, 0), x.tapeTold(0, 0), x.worth(0, 0, 0));
        bad(x.findTold(0, 0), x.tankTold(0, 0), x.under(0, 0), x.best(0), x.joined(0), x.planned(0), x.stood(0), x.stoodAt(0, 0));
        for (int sheet = 0; sheet < 4; sheet++) {
            due(x.cell(sheet, 0, 0), NOTHING);
            due(x.none(sheet, 0), NOTHING);
            due(x.tapes(sheet, 0, 0), NOTHING);
        }
        // One object has nothing of another.
        marks(2);
        x.tape(0, 1, 5);
        x.diver();
        anew();
        due(x.count(0), 0);
        due(x.count(1), 0);
        due(x.count(4), 0);
        due(x.bar(1), 100);
    }

    private void mark() {
        sentence(2, "A MARK: its number. BAD; FULL.");
        for (int i = 0; i < 8; i++) {
            due(x.mark(5001, 0, false), BAD);
            due(x.mark(5000, 0, false), i);
        }
        // BAD is named ahead of FULL.
        bad(x.mark(5001, 0, false), x.mark(0, -5001, false));
        due(x.mark(0, 0, false), FULL);
    }

    private void tape() {
        sentence(3, "A TAPE: its number. BAD: also a = b; FULL.");
        bad(x.tape(0, 0, 5), x.tape(0, 1, 5));
        marks(3);
        bad(x.tape(0, 0, 5), x.tape(2, 2, 5), x.tape(0, 3, 5), x.tape(3, 0, 5), x.tape(-1, 0, 5), x.tape(0, -1, 5));
        bad(x.tape(-1, -1, 5), x.tape(3, 3, 5), x.tape(LOW, 0, 5), x.tape(0, HIGH, 5), x.tape(HIGH, LOW, 5));
        for (int i = 0; i < 24; i++) due(x.tape(2, i % 2, 5), i);
        bad(x.tape(1, 1, 5), x.tape(0, 3, 5), x.tape(0, 1, 0), x.tape(0, 1, 15001));
        due(x.tape(0, 2, 5), FULL);
    }

    private void tapesThreeByThree() {
        sentence(4, "TAPES from a SHEET that is taken for floats: items three by three (MARK, MARK, length, each cut to a whole number) from one on, n of them;");
        marks(4);
        // In halves: 0.5, 1.5, 15000.5, then -0.5, 3.5, 1.5, then 2, 1, 7.
        floats(0, 1, 3, 30001, -1, 7, 3, 4, 2, 14);
        due(x.tapes(0, 0, 0), 0);
        due(x.tapes(0, 0, 3), 3);
        long[][] told = {{0, 1, 15000}, {0, 3, 1}, {2, 1, 7}};
        for (int tape = 0; tape < 3; tape++) {
            for (int what = 0; what < 3; what++) due(x.tapeTold(tape, what), told[tape][what]);
        }
        // From one on: not only from every third one. Items 2, 3, 4 are 15000.5, -0.5, 3.5.
        due(x.tapes(0, 6, 1), 4);
        due(x.tapeTold(3, 2), 7);
        floats(0, 9, 0, 2, 50, 9);
        due(x.tapes(0, 1, 1), 5);
        due(x.tapeTold(4, 0), 0);
        due(x.tapeTold(4, 1), 1);
        due(x.tapeTold(4, 2), 25);
        // Cut toward 0: 0.5 is no length, -1 no MARK, 15001 too long.
        floats(0, 0, 2, 1);
        bad(x.tapes(0, 0, 1));
        floats(0, -2, 2, 50);
        bad(x.tapes(0, 0, 1));
        floats(0, 0, 2, 30002);
        bad(x.tapes(0, 0, 1));
        floats(0, 0, 1, 50);
        bad(x.tapes(0, 0, 1));
        due(x.count(1), 5);
        // The longest SHEET: 13 times three, and one over.
        anew();
        marks(2);
        x.sheet(3, 2, 40);
        for (int i = 0; i < 40; i++) x.cell(3, i, i % 3 == 0 ? 0 : 2);
        due(x.tapes(3, 0, 13), 13);
        bad(x.tapes(3, 1, 1));
        due(x.tapes(3, 36, 2), OUTSIDE);
        due(x.count(1), 14);
    }

    private void tapesNotHad() {
        sentence(4, "one of which a number is none (no number) was not had:");
        marks(2);
        for (int i = 0; i < 3; i++) {
            floats(0, 0, 2, 10, 0, 2, 20);
            x.none(0, i);
            due(x.tapes(0, 0, 2), i + 1);
            due(x.tapeTold(i, 2), 10);
        }
        // Also one that would be BAD, and also when there is no room for one more.
        floats(0, 0, 0, 0);
        x.none(0, 2);
        due(x.tapes(0, 0, 1), 3);
        floats(0, 99, 99, 0);
        x.none(0, 1);
        due(x.tapes(0, 0, 1), 3);
        for (int i = 3; i < 24; i++) x.tape(0, 1, 5);
        due(x.tapes(0, 0, 1), 24);
        x.cell(0, 1, 0);
        due(x.tapes(0, 0, 1), BAD);
    }

    private void tapesCount() {
        sentence(4, "how many TAPES there are then.");
        marks(2);
        floats(0, 0, 2, 10, 0, 2, 10);
        due(x.tapes(0, 0, 0), 0);
        x.tape(0, 1, 7);
        due(x.tapes(0, 0, 0), 1);
        due(x.tapes(0, 0, 2), 3);
        x.none(0, 0);
        due(x.tapes(0, 0, 2), 4);
        x.none(0, 3);
        due(x.tapes(0, 0, 2), 4);
        due(x.tapes(0, 99, 0), 4);
        due(x.tapes(0, LOW, 0), 4);
        x.sheet(0, 2, 0);
        due(x.tapes(0, 0, 0), 4);
        due(x.tapes(0, 0, 1), OUTSIDE);
    }

    private void tapesRefused() {
        sentence(4, "BAD: no such SHEET, n below 0; -13; -11;");
        bad(x.tapes(-1, 0, 1), x.tapes(4, 0, 1), x.tapes(LOW, 0, 0), x.tapes(HIGH, 0, 0), x.tapes(0, 0, -1), x.tapes(0, 0, LOW));
        due(x.tapes(0, 0, 0), NOTHING);
        due(x.tapes(0, -1, 5), NOTHING);
        for (int sort = 0; sort < 2; sort++) {
            x.sheet(1, sort, 6);
            due(x.tapes(1, 0, 0), OTHER);
            due(x.tapes(1, 99, 5), OTHER);
            bad(x.tapes(1, 0, -1));
        }
        x.sheet(1, 2, 6);
        bad(x.tapes(1, 0, -1));
        due(x.tapes(1, 0, 0), 0);
        x.sheet(1, -1, 0);
        bad(x.tapes(1, 0, -1));
        due(x.tapes(1, 0, 0), NOTHING);
    }

    private void tapesThatCameAhead() {
        sentence(4, "-12, BAD, FULL: what stood ahead came.");
        marks(2);
        floats(0, 0, 2, 10, 0, 2, 20, 0, 2);
        due(x.tapes(0, 0, 3), OUTSIDE);
        due(x.count(1), 2);
        due(x.tapeTold(1, 2), 10);
        due(x.tapes(0, 3, HIGH), OUTSIDE);
        due(x.count(1), 3);
        for (int from : new int[] {-1, -2, -3, 6, 7, 8, LOW, HIGH, HIGH - 1, HIGH - 2}) due(x.tapes(0, from, 1), OUTSIDE);
        due(x.count(1), 3);
        // Each of the three numbers may be the one that is not as told.
        int[][] wrongs = {{-2, 2, 10}, {4, 2, 10}, {0, -2, 10}, {0, 4, 10}, {0, 0, 10}, {2, 2, 10}, {0, 2, 0}, {0, 2, -2}, {0, 2, 30002}};
        for (int[] told : wrongs) {
            floats(1, 0, 2, 10, told[0], told[1], told[2], 0, 2, 10);
            int before = x.count(1);
            due(x.tapes(1, 0, 3), BAD);
            due(x.count(1), before + 1);
        }
        floats(2, 0, 2, 10, 0, 2, 10, 0, 2, 10);
        due(x.count(1), 12);
        for (int i = 12; i < 22; i++) x.tape(0, 1, 5);
        due(x.tapes(2, 0, 3), FULL);
        due(x.count(1), 24);
        due(x.tapes(2, 0, 3), FULL);
        // FULL is named behind BAD, and -12 ahead of both.
        due(x.tapes(1, 3, 1), BAD);
        due(x.tapes(2, 7, 1), OUTSIDE);
        due(x.count(1), 24);
    }

    private void bar() {
        sentence(5, "THE BAR: what it was. BAD.");
        due(x.bar(1), 100);
        bad(x.bar(0), x.bar(15001));
        due(x.bar(15000), 1);
        bad(x.bar(LOW), x.bar(HIGH));
        due(x.bar(100), 15000);
        // It counts at once, both ways.
        marks(2);
        x.tape(0, 1, 1200);
        due(x.tapeTold(0, 3), 1);
        x.bar(200);
        due(x.tapeTold(0, 3), 0);
        bad(x.bar(0));
        due(x.tapeTold(0, 3), 0);
        x.bar(199);
        due(x.tapeTold(0, 3), 1);
    }

    private void fit() {
        sentence(6, "Where a MARK is by THE FIT: 0 X, 1 Y. NO: no such.");
        no(x.fit(0, 0), x.fit(0, 1));
        x.mark(-17, 23, false);
        due(x.fit(0, 0), -17);
        due(x.fit(0, 1), 23);
        no(x.fit(0, 2), x.fit(0, -1), x.fit(0, LOW), x.fit(0, HIGH), x.fit(1, 0), x.fit(-1, 0), x.fit(LOW, 0), x.fit(HIGH, 1));
        // A MARK, and then a TAPE, that comes when THE FIT has been asked for.
        x.mark(-17, 23, true);
        due(x.fit(1, 0), -17);
        due(x.fit(1, 1), 23);
        x.tape(0, 1, 512);
        due(x.fit(0, 0), -17 - 512);
        due(x.fit(0, 1), 23);
        x.mark(100, 200, false);
        due(x.fit(2, 0), 100);
        due(x.fit(0, 0), -17 - 512);
        // Beyond the 5000 to which a place may be told.
        anew();
        x.mark(5000, 5000, false);
        x.mark(4000, 5000, true);
        x.mark(5000, 4000, true);
        x.tape(0, 1, 1900);
        x.tape(0, 2, 1900);
        x.bar(15000);
        due(x.sum(), 0);
        if (x.fit(0, 0) <= 5000 || x.fit(0, 1) <= 5000) fail("it stays within 5000");
    }

    private void tapeTold() {
        sentence(7, "Of a TAPE: 0, 1 its MARKS, 2 length, 3 whether it is OUT (1, 0), 4 its MISS by THE FIT. NO: no such.");
        for (int what = -1; what <= 5; what++) no(x.tapeTold(0, what));
        marks(3);
        x.tape(2, 1, 1101);
        x.tape(0, 2, 1999);
        long[][] told = {{2, 1, 1101, 1, -101}, {0, 2, 1999, 0, 1}};
        for (int tape = 0; tape < 2; tape++) {
            for (int what = 0; what < 5; what++) due(x.tapeTold(tape, what), told[tape][what]);
            no(x.tapeTold(tape, 5), x.tapeTold(tape, -1), x.tapeTold(tape, LOW), x.tapeTold(tape, HIGH));
        }
        no(x.tapeTold(2, 0), x.tapeTold(-1, 0), x.tapeTold(LOW, 4), x.tapeTold(HIGH, 3));
        // Also an OUT one has its MISS at the places of THE FIT.
        x.bar(101);
        due(x.tapeTold(0, 3), 0);
        due(x.tapeTold(0, 4), -101);
    }

    private void sum() {
        sentence(8, "The sum of the squares of the MISSES of all TAPES that are not OUT.");
        due(x.sum(), 0);
        marks(2);
        due(x.sum(), 0);
        x.tape(0, 1, 900);
        due(x.sum(), 10000);
        x.tape(0, 1, 1100);
        due(x.sum(), 20000);
        x.tape(0, 1, 1101);
        due(x.sum(), 20000);
        x.bar(99);
        due(x.sum(), 0);
        // More than 32 bits.
        anew();
        x.mark(-5000, -5000, true);
        x.mark(5000, 5000, true);
        x.bar(15000);
        for (int i = 0; i < 24; i++) x.tape(0, 1, 1);
        due(x.sum(), 24L * 14141 * 14141);
    }
}
