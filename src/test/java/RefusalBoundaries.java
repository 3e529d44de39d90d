import java.util.StringJoiner;
import java.util.function.ToLongFunction;

/** The first sentences of the terms: DAYS and MOMENTS, the numbers that refuse, and that a refused call changes nothing. */
final class RefusalBoundaries extends Checks {
    private static final int PARTS = 6;

    RefusalBoundaries(Document document) {
        super(document);
    }

    @Override
    void run() {
        days();
        moments();
        noneAndNo();
        refusals();
        hostRefusals();
        changesNothingInMarks();
        changesNothingInFinds();
        changesNothingInDives();
        changesNothingInTheRest();
        changesNothingWhenFull();
        faultChangesTheTapeAlone();
    }

    private void days() {
        sentence(0, "DAYS are 0 .. 999,");
        x.find(5, 0, 0, 1);
        x.find(5, 0, 0, 1);
        x.tank(5, 9);
        divers(2);
        rule("bar 0;");
        for (int day : new int[] {-1, 1000, LOW, HIGH}) {
            bad(x.lift(0, 0, day), x.why(0, 0, day), x.take(0, day), x.under(0, day));
            no(x.worth(0, day, 0));
        }
        for (int day : new int[] {0, 999}) {
            due(x.why(0, 0, day), 0);
            due(x.take(0, day), STATE);
            due(x.under(0, day), 0);
            due(x.worth(0, day, 0), 0);
        }
        due(x.lift(0, 0, 0), 1);
        due(x.lift(1, 0, 999), 1);
        due(x.take(0, 999), 1);
    }

    private void moments() {
        sentence(0, "MINUTES of a DAY 0 .. 1439; a MOMENT is 1440 times DAY, and MINUTE.");
        divers(2);
        x.row(90, 200, 1);
        int[][] rows = {{0, 0}, {1439, 0}, {1440, 1}, {2879, 1}, {2880, 2}, {1438559, 998}, {1438560, 999}, {1439999, 999}};
        for (int[] told : rows) {
            due(x.dive(0, 1, told[0], 1, 7), 0);
            for (int day : new int[] {0, 1, 2, 998, 999}) due(x.under(0, day), day == told[1] ? 7 : 0);
            x.cancel();
        }
        bad(x.dive(0, 1, -1, 1, 7), x.dive(0, 1, 1440000, 1, 7), x.soonest(0, 1, -1, 1, 7), x.soonest(0, 1, 1440000, 1, 7));
    }

    private void noneAndNo() {
        sentence(0, "NONE is -1; NO, where a long is answered, -4611686018427387904.");
        due(WreckField.NONE, -1);
        due(WreckField.NO, -4611686018427387904L);
        due(x.fit(0, 0), WreckField.NO);
        due(x.tapeTold(0, 0), WreckField.NO);
        due(x.worth(0, 0, 0), WreckField.NO);
        x.find(1, 0, 0, 1);
        x.task(1, 1);
        due(x.findTold(0, 5), WreckField.NONE);
        due(x.best(0), WreckField.NONE);
        due(x.planned(0), WreckField.NONE);
        due(x.stoodAt(0, 5), WreckField.NONE);
    }

    private void refusals() {
        sentence(0, "BAD (-2: a number is none such or not as told), STATE (-3), FULL (-4);");
        due(WreckField.BAD, -2);
        due(WreckField.STATE, -3);
        due(WreckField.FULL, -4);
        due(x.bar(0), WreckField.BAD);
        due(x.cancel(), WreckField.STATE);
        for (int i = 0; i < 6; i++) x.diver();
        due(x.diver(), WreckField.FULL);
    }

    private void hostRefusals() {
        sentence(0, "the host's: -11 nothing where something is asked, -12 a place outside, -13 a thing of another sort or KIND, -14 a size below 0.");
        due(x.cell(0, 0, 0), -11);
        due(x.taken(0, 0), -11);
        x.sheet(0, 0, 1);
        due(x.cell(0, 1, 0), -12);
        due(x.none(0, 0), -13);
        x.find(0, 0, 0, 1);
        due(x.taken(0, 1), -13);
        due(x.sheet(0, 0, -1), -14);
    }

    /** A field that has something of everything, and room for more. */
    private static WreckField partly() {
        WreckField field = new WreckField();
        int[][] marks = {{0, 0}, {1000, 0}, {400, 500}, {-300, 800}};
        for (int i = 0; i < 4; i++) field.mark(marks[i][0], marks[i][1], i < 2);
        int[][] tapes = {{0, 2, 800}, {1, 2, 700}, {0, 1, 1150}, {2, 3, 640}, {3, 0, 900}};
        for (int[] tape : tapes) field.tape(tape[0], tape[1], tape[2]);
        for (int kind = 0; kind < 6; kind++) field.find(kind, 13 * kind, kind % 4, 1 + kind);
        field.find(1, 17, 1, 9);
        for (int i = 0; i < 4; i++) field.hole(1, 10 * i);
        for (int i = 0; i < 3; i++) field.hole(6, 5 + 10 * i);
        field.tank(0, 12);
        field.tank(3, 5);
        field.lift(4, 0, 3);
        field.lift(5, 0, 3);
        field.lift(3, 1, 9);
        field.take(5, 500);
        for (int i = 0; i < 4; i++) field.diver();
        field.row(30, 60, 50);
        field.row(10, 120, 20);
        field.dive(0, 1, 100, 9, 40);
        field.dive(2, 3, 120, 25, 50);
        field.dive(0, 2, 1439, 10, 90);
        tell(field, "bar day = 8; bar size < 2 and day = 9;");
        field.rule();
        tell(field, "bar 1; bar x");
        int[][] tasks = {{60, 10}, {50, 9}, {40, 8}, {30, 0}};
        for (int[] task : tasks) field.task(task[0], task[1]);
        field.gang(100);
        field.gang(45);
        field.bar(120);
        field.hatches(6);
        field.roll(1);
        field.sheet(0, 2, 9);
        int[] halves = {0, 4, 1500, 2, 4, 1600, 6, 2, 2000};
        for (int i = 0; i < 9; i++) field.cell(0, i, halves[i]);
        field.none(0, 4);
        field.sheet(1, 0, 4);
        field.sheet(2, 1, 5);
        return field;
    }

    private static void tell(WreckField field, String text) {
        for (int at = 0; at < text.length(); at++) field.feed(1, text.charAt(at));
    }

    /** One that has as many of everything as there may be. */
    private static WreckField full() {
        WreckField field = partly();
        for (int i = 0; i < 8; i++) field.mark(100 * i, 70 * i, false);
        for (int i = 0; i < 24; i++) field.tape(i % 8, (i + 1) % 8, 300 + 40 * i);
        for (int i = 0; i < 20; i++) field.find(i % 6, 4 * i, i % 4, 1 + i % 9);
        for (int i = 0; i < 8; i++) field.hole(1, 11 * i);
        for (int i = 0; i < 6; i++) field.tank(i, 9 + i);
        for (int i = 0; i < 6; i++) field.diver();
        for (int i = 1; i <= 8; i++) field.row(11 * i, 50, 9 * i);
        for (int i = 0; i < 40; i++) field.dive(4, 5, 100000 + 900 * i, 2, 5);
        for (int i = 0; i < 19; i++) field.feed(8, 0x2020202020202020L);
        while (field.feed(1, ' ') > 0) field.count(7);
        for (int i = 0; i < 9; i++) field.task(20 + i, 3 + i);
        for (int i = 0; i < 4; i++) field.gang(30 + i);
        return field;
    }

    /** All that a part of a field answers. The parts are asked of fields of their own, since asking may change them. */
    private static String observed(WreckField field, int part) {
        StringJoiner answers = new StringJoiner(" ");
        switch (part) {
            case 0: observeMarks(field, answers); break;
            case 1: observeFinds(field, answers); break;
            case 2: observeDives(field, answers); break;
            case 3: observeRules(field, answers); break;
            case 4: observePlans(field, answers); break;
            default: observeSheets(field, answers); break;
        }
        return answers.toString();
    }

    private static void add(StringJoiner answers, long answer) {
        answers.add(Long.toString(answer));
    }

    private static void observeMarks(WreckField field, StringJoiner answers) {
        for (int what = 0; what <= 12; what++) add(answers, field.count(what));
        for (int mark = 0; mark < 9; mark++) {
            add(answers, field.fit(mark, 0));
            add(answers, field.fit(mark, 1));
        }
        for (int tape = 0; tape < 25; tape++) {
            for (int what = 0; what < 5; what++) add(answers, field.tapeTold(tape, what));
        }
        add(answers, field.sum());
        add(answers, field.bar(15000));
        add(answers, field.sum());
    }

    private static void observeFinds(WreckField field, StringJoiner answers) {
        for (int find = 0; find < 21; find++) {
            for (int what = 0; what < 8; what++) add(answers, field.findTold(find, what));
        }
        for (int tank = 0; tank < 7; tank++) {
            for (int what = 0; what < 4; what++) add(answers, field.tankTold(tank, what));
            add(answers, field.why(2, tank, 10));
        }
        add(answers, field.take(3, 999));
        add(answers, field.take(4, 999));
    }

    private static void observeDives(WreckField field, StringJoiner answers) {
        for (int depth = 1; depth < 90; depth += 4) add(answers, field.soonest(0, 1, 100, depth, 50));
        for (int diver = 0; diver < 7; diver++) {
            add(answers, field.under(diver, 0));
            add(answers, field.soonest(diver, diver == 3 ? 2 : 3, 90, 8, 30));
        }
        for (int left = 41; left > 0; left--) {
            add(answers, field.cancel());
            add(answers, field.under(0, 0));
            add(answers, field.under(2, 1));
        }
    }

    private static void observeRules(WreckField field, StringJoiner answers) {
        for (int asking = 0; asking < 2; asking++) {
            for (int k = 0; k < 7; k++) {
                for (int find = 0; find < 3; find++) add(answers, field.worth(find, 8 + find, k));
            }
            add(answers, field.count(7));
            add(answers, field.rule());
            add(answers, field.count(8));
        }
    }

    private static void observePlans(WreckField field, StringJoiner answers) {
        add(answers, field.plan());
        for (int task = 0; task < 10; task++) add(answers, field.planned(task));
        for (int find = 0; find < 8; find++) {
            add(answers, field.best(find));
            add(answers, field.joined(find));
            add(answers, field.stood(find));
            for (int i = 0; i < 5; i++) add(answers, field.stoodAt(find, i));
            add(answers, field.bond(find, 1, 0));
            add(answers, field.bond(find, 6, 1));
        }
        add(answers, field.hatches(0));
        add(answers, field.roll(0));
    }

    private static void observeSheets(WreckField field, StringJoiner answers) {
        for (int sheet = 0; sheet < 4; sheet++) {
            for (int from = 0; from < 9; from += 3) add(answers, field.tapes(sheet, from, 1));
            for (int i = 0; i <= 40; i++) add(answers, field.cell(sheet, i, 0));
            add(answers, field.none(sheet, 0));
        }
        for (int tape = 5; tape < 9; tape++) {
            for (int what = 0; what < 3; what++) add(answers, field.tapeTold(tape, what));
        }
    }

    private void unchanged(boolean isFull, long answer, ToLongFunction<WreckField> call) {
        for (int part = 0; part < PARTS; part++) {
            WreckField touched = isFull ? full() : partly();
            due(call.applyAsLong(touched), answer);
            String got = observed(touched, part), want = observed(isFull ? full() : partly(), part);
            if (!got.equals(want)) fail("part " + part + " has changed:\n    " + got + "\n    " + want);
        }
    }

    private void unchanged(long answer, ToLongFunction<WreckField> call) {
        unchanged(false, answer, call);
    }

    private void changesNothing() {
        sentence(0, "Refusals, the first that the call's words name; they change nothing:");
    }

    private void changesNothingInMarks() {
        changesNothing();
        unchanged(BAD, f -> f.mark(5001, 0, false));
        unchanged(BAD, f -> f.mark(0, -5001, true));
        unchanged(BAD, f -> f.tape(0, 0, 5));
        unchanged(BAD, f -> f.tape(0, 4, 5));
        unchanged(BAD, f -> f.tape(-1, 0, 5));
        unchanged(BAD, f -> f.tape(0, 1, 0));
        unchanged(BAD, f -> f.tape(0, 1, 15001));
        unchanged(BAD, f -> f.tapes(4, 0, 1));
        unchanged(BAD, f -> f.tapes(0, 0, -1));
        unchanged(OTHER, f -> f.tapes(1, 0, 1));
        unchanged(OTHER, f -> f.tapes(2, 0, 1));
        unchanged(NOTHING, f -> f.tapes(3, 0, 1));
        unchanged(OUTSIDE, f -> f.tapes(0, -1, 1));
        unchanged(OUTSIDE, f -> f.tapes(0, 7, 1));
        unchanged(BAD, f -> f.tapes(0, 1, 1));
        unchanged(BAD, f -> f.bar(0));
        unchanged(BAD, f -> f.bar(15001));
        unchanged(NO, f -> f.fit(4, 0));
        unchanged(NO, f -> f.tapeTold(5, 0));
        unchanged(NO, f -> f.tapeTold(0, 5));
    }

    private void changesNothingInFinds() {
        changesNothing();
        unchanged(BAD, f -> f.find(6, 0, 0, 1));
        unchanged(BAD, f -> f.find(0, 100, 0, 1));
        unchanged(BAD, f -> f.find(0, 0, 4, 1));
        unchanged(BAD, f -> f.find(0, 0, 0, 10));
        unchanged(BAD, f -> f.hole(0, 5));
        unchanged(BAD, f -> f.hole(1, 100));
        unchanged(STATE, f -> f.hole(1, 30));
        unchanged(BAD, f -> f.findTold(7, 0));
        unchanged(BAD, f -> f.tank(6, 5));
        unchanged(BAD, f -> f.tank(0, 41));
        unchanged(BAD, f -> f.tankTold(2, 0));
        unchanged(BAD, f -> f.lift(7, 0, 0));
        unchanged(BAD, f -> f.lift(0, 2, 0));
        unchanged(BAD, f -> f.lift(0, 0, 1000));
        unchanged(-21, f -> f.lift(3, 0, 10));
        unchanged(-21, f -> f.lift(5, 0, 10));
        unchanged(-22, f -> f.lift(0, 1, 10));
        unchanged(-23, f -> f.lift(6, 0, 10));
        unchanged(-24, f -> f.lift(0, 0, 8));
        unchanged(-25, f -> f.lift(0, 0, 9));
        unchanged(1, f -> f.why(3, 0, 10));
        unchanged(0, f -> f.why(0, 0, 10));
        unchanged(BAD, f -> f.take(7, 0));
        unchanged(BAD, f -> f.take(4, 1000));
        unchanged(STATE, f -> f.take(0, 999));
        unchanged(STATE, f -> f.take(4, 352));
        unchanged(STATE, f -> f.take(5, 999));
        unchanged(BAD, f -> f.taken(0, 6));
        unchanged(NOTHING, f -> f.taken(7, 0));
        unchanged(OTHER, f -> f.taken(0, 1));
    }

    private void changesNothingInDives() {
        changesNothing();
        unchanged(BAD, f -> f.row(0, 1, 1));
        unchanged(BAD, f -> f.row(10, 0, 1));
        unchanged(BAD, f -> f.row(10, 201, 1));
        unchanged(BAD, f -> f.row(30, 1, 1441));
        unchanged(BAD, f -> f.dive(0, 0, 5000, 1, 1));
        unchanged(BAD, f -> f.dive(0, 4, 5000, 1, 1));
        unchanged(BAD, f -> f.dive(0, 1, -1, 1, 1));
        unchanged(BAD, f -> f.dive(0, 1, 1440000, 1, 1));
        unchanged(BAD, f -> f.dive(0, 1, 5000, 0, 1));
        unchanged(BAD, f -> f.dive(0, 1, 5000, 1, 201));
        unchanged(-21, f -> f.dive(0, 1, 5000, 31, 1));
        unchanged(-22, f -> f.dive(0, 1, 5000, 30, 61));
        unchanged(-23, f -> f.dive(0, 1, 140, 1, 1));
        unchanged(-24, f -> f.dive(0, 1, 159, 1, 1));
        unchanged(-25, f -> f.dive(0, 1, 160, 1, 81));
        unchanged(BAD, f -> f.under(4, 0));
        unchanged(BAD, f -> f.soonest(0, 0, 0, 1, 1));
        unchanged(NONE, f -> f.soonest(0, 1, 0, 1, 121));
        unchanged(160, f -> f.soonest(0, 1, 100, 1, 30));
        WreckField field = new WreckField();
        due(field.cancel(), STATE);
        due(field.count(6), 0);
    }

    private void changesNothingInTheRest() {
        changesNothing();
        unchanged(BAD, f -> f.feed(0, 0x31));
        unchanged(BAD, f -> f.feed(9, 0x31));
        unchanged(NO, f -> f.worth(0, 0, 2));
        unchanged(-1000, f -> f.bond(1, 1, 0));
        unchanged(BAD, f -> f.best(0));
        unchanged(BAD, f -> f.joined(0));
        unchanged(BAD, f -> f.task(0, 5));
        unchanged(BAD, f -> f.task(5, 1000));
        unchanged(BAD, f -> f.gang(-1));
        unchanged(BAD, f -> f.gang(401));
        unchanged(BAD, f -> f.planned(4));
        unchanged(BAD, f -> f.hatches(1));
        unchanged(BAD, f -> f.hatches(32));
        unchanged(BAD, f -> f.roll(10));
        unchanged(BAD, f -> f.roll(-10));
        unchanged(BAD, f -> f.stood(7));
        unchanged(BAD, f -> f.stoodAt(7, 0));
        unchanged(BAD, f -> f.count(13));
        unchanged(BAD, f -> f.sheet(0, 3, 1));
        unchanged(BAD, f -> f.sheet(0, 0, 41));
        unchanged(BAD, f -> f.sheet(4, -1, 0));
        unchanged(BELOW, f -> f.sheet(0, 0, -1));
        unchanged(BELOW, f -> f.sheet(3, 2, -1));
        unchanged(BAD, f -> f.cell(0, 0, 40001));
        unchanged(BAD, f -> f.cell(4, 0, 1));
        unchanged(NOTHING, f -> f.cell(3, 0, 1));
        unchanged(OUTSIDE, f -> f.cell(0, 9, 1));
        unchanged(BAD, f -> f.none(4, 0));
        unchanged(OTHER, f -> f.none(1, 0));
        unchanged(NOTHING, f -> f.none(3, 0));
        unchanged(OUTSIDE, f -> f.none(0, 9));
    }

    private void changesNothingWhenFull() {
        changesNothing();
        unchanged(true, FULL, f -> f.mark(0, 0, true));
        unchanged(true, FULL, f -> f.tape(0, 1, 5));
        unchanged(true, FULL, f -> f.tapes(0, 0, 1));
        unchanged(true, FULL, f -> f.find(0, 0, 0, 1));
        unchanged(true, FULL, f -> f.hole(1, 99));
        unchanged(true, FULL, f -> f.tank(0, 5));
        unchanged(true, FULL, f -> f.diver());
        unchanged(true, FULL, f -> f.row(5, 1, 1));
        unchanged(true, FULL, f -> f.dive(4, 5, 5000, 2, 5));
        unchanged(true, FULL, f -> f.feed(1, '1'));
        unchanged(true, FULL, f -> f.feed(8, -1));
        unchanged(true, FULL, f -> f.task(1, 1));
        unchanged(true, FULL, f -> f.gang(400));
    }

    private void faultChangesTheTapeAlone() {
        sentence(24, "-100 less the place of its FAULT (THE RULE stays).");
        for (int part = 0; part < PARTS; part++) {
            WreckField touched = partly(), other = partly();
            due(touched.rule(), -112);
            due(touched.count(7), 0);
            tell(touched, "bar 1; bar x");
            due(touched.count(7), other.count(7));
            String got = observed(touched, part), want = observed(other, part);
            if (!got.equals(want)) fail("part " + part + " has changed:\n    " + got + "\n    " + want);
        }
    }
}
