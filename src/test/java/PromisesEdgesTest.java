/** A test for each sentence of the promises 1 to 14 that names a boundary case. */
public final class PromisesEdgesTest {
    private static final int NONE = Calls.NONE;
    private static final int INPUT = Calls.INPUT;
    private static final int OUTPUT = Calls.OUTPUT;
    private static final int BOTH = Calls.BOTH;
    private static final int EXTEND = Calls.EXTEND;
    private static final int CLOSE = Calls.CLOSE;
    private static final int LOW = Calls.LOW;
    private static final int HIGH = Calls.HIGH;
    private static final boolean ON = Calls.ON;
    private static final boolean BACK = Calls.BACK;

    private static final int EQUAL = 0;
    private static final int GREATER = 1;
    private static final int NOT_LESS = 2;
    private static final int LESS = 3;
    private static final int NOT_GREATER = 4;

    private static final int[] READING = {INPUT, BOTH};
    private static final int[] WRITING_ALONE = {OUTPUT, EXTEND};
    private static final int[] NO_PLACES_OF_NINE = {LOW, -2, 0, 10, 65536, 65537, HIGH};

    // Promise 1

    private static void proveMost(int told, int held) {
        Calls run = new Calls(told).count(0, held).noCell(0).noCell(held + 1).open(EXTEND, 5)
            .write(held + 1, 7, 24).records(0);
        if (held > 0) {
            run.cell(held, 0).write(held, 7, 0).cell(held, 7).write(NONE, 8, 24).count(3, held);
        }
    }

    private static void mostWithin() {
        for (int most : new int[] {0, 1, 2, 511, 512, 513, 65535, 65536}) {
            proveMost(most, most);
        }
    }

    private static void mostTooLarge() {
        proveMost(65537, 65536);
        proveMost(1 << 20, 65536);
        proveMost(HIGH, 65536);
    }

    private static void mostTooSmall() {
        proveMost(-1, 0);
        proveMost(-65536, 0);
        proveMost(LOW, 0);
    }

    // Promise 2

    private static void openForReading() {
        for (int mode : READING) {
            new Calls(9).open(mode, 35).count(1, 0).count(2, NONE).open(mode, 35).open(EXTEND, 5).open(mode, 41)
                .count(2, EXTEND).open(CLOSE, 0).open(mode, 0).count(2, mode).open(mode, 41);
            Calls.filled(9, mode, 2, 8).records(2).cell(2, 20).cell(8, 80);
        }
    }

    private static void openForOutput() {
        new Calls(9).open(OUTPUT, 0).count(1, 1).count(2, OUTPUT).open(OUTPUT, 41).reopen(OUTPUT).open(OUTPUT, 41);
        Calls.filled(9, BOTH, 2).open(OUTPUT, 41).records(1).count(2, BOTH);
    }

    private static void outputLeavesNoRecords() {
        Calls.filled(9, EXTEND, 1, 2, 9).reopen(OUTPUT).records(0).cell(1, 0).cell(2, 0).cell(9, 0).count(3, 0)
            .count(4, 0).write(9, 7, 0).records(1).cell(9, 7).cell(1, 0);
        Calls.filled(9, OUTPUT, 9).write(NONE, 7, 0).cell(1, 7).reopen(INPUT).reaches(ON, 1).next(ON, 10);
        Calls.filled(9, OUTPUT, 1, 9).open(CLOSE, 0).count(1, 1).open(INPUT, 0).next(ON, 10);
    }

    private static void openForExtending() {
        new Calls(9).open(EXTEND, 5).count(1, 1).count(2, EXTEND).open(EXTEND, 41).open(CLOSE, 0).open(EXTEND, 0);
        new Calls(9).open(INPUT, 35).open(EXTEND, 5);
        new Calls(9).open(OUTPUT, 0).open(EXTEND, 41).reopen(EXTEND);
        Calls.filled(9, EXTEND, 2, 8).records(2).cell(2, 20).cell(8, 80).write(NONE, 99, 0).cell(9, 99);
    }

    private static void closing() {
        new Calls(9).open(CLOSE, 42).count(1, 0).open(CLOSE, 42);
        for (int mode = INPUT; mode <= EXTEND; mode++) {
            Calls.filled(9, mode).open(CLOSE, 0).count(1, 1).count(2, NONE).open(CLOSE, 42).open(mode, 0);
        }
        Calls.filled(9, BOTH, 2, 8).open(CLOSE, 0).records(2).cell(2, 20).cell(8, 80);
    }

    private static void openGoesAheadOfAll() {
        for (int mode : READING) {
            Calls.filled(9, mode, 2, 5).reaches(ON, 2);
            Calls.filled(9, mode, 2, 5).next(BACK, 10);
            Calls.filled(9, mode, 2, 5).read(2, 0).reopen(mode).reaches(ON, 2);
            Calls.filled(9, mode, 2, 5).read(5, 0).reopen(mode).next(BACK, 10);
            Calls.filled(9, mode, 2, 5).start(EQUAL, 5, 0).reopen(mode).reaches(ON, 2);
            Calls.filled(9, mode, 2, 5).read(3, 23).reopen(mode).reaches(ON, 2);
            Calls.filled(9, mode, 2, 5).next(BACK, 10).reopen(mode).reaches(ON, 2);
            Calls.filled(9, mode).next(ON, 10).reopen(mode).next(BACK, 10);
        }
    }

    // Promise 3

    private static void writeRefused() {
        new Calls(9).write(1, 1, 42).write(NONE, 1, 42).write(0, 1, 42).write(10, 1, 42);
        Calls.filled(9, INPUT, 2).write(1, 1, 48).write(NONE, 1, 48).write(2, 1, 48).write(0, 1, 48).write(10, 1, 48)
            .records(1);
        Calls.filled(9, OUTPUT).write(1, 1, 0);
        Calls.filled(9, BOTH).write(1, 1, 0);
        Calls.filled(9, EXTEND).write(1, 1, 0);
    }

    private static void inOrderNotInBoth() {
        Calls.filled(9, BOTH).write(NONE, 1, 24).records(0);
        Calls.filled(9, BOTH, 2).write(NONE, 1, 24).records(1).cell(3, 0).value(20);
        Calls.filled(9, BOTH, 9).write(NONE, 1, 24);
        for (int mode : WRITING_ALONE) {
            Calls.filled(9, mode).write(NONE, 1, 0).cell(1, 1);
        }
    }

    private static void inOrderBehindTheGreatest() {
        Calls.filled(9, EXTEND, 7, 2).write(NONE, 1, 0).cell(8, 1).cell(1, 0).cell(3, 0).write(NONE, 2, 0).cell(9, 2);
        Calls.filled(9, OUTPUT).write(4, 1, 0).write(2, 1, 0).write(NONE, 5, 0).cell(5, 5).cell(3, 0);
        Calls.filled(9, BOTH, 2, 7).remove(7, 0).reopen(EXTEND).write(NONE, 3, 0).cell(3, 3).cell(8, 0);
    }

    private static void inOrderWithoutRecords() {
        new Calls(9).open(EXTEND, 5).write(NONE, 1, 0).cell(1, 1);
        new Calls(9).open(OUTPUT, 0).write(NONE, 1, 0).cell(1, 1);
        Calls.filled(9, BOTH, 5).remove(5, 0).reopen(EXTEND).write(NONE, 1, 0).cell(1, 1);
        new Calls(1).open(EXTEND, 5).write(NONE, 1, 0).write(NONE, 1, 24).records(1);
    }

    private static void writeOutside() {
        for (int mode = OUTPUT; mode <= EXTEND; mode++) {
            for (int number : NO_PLACES_OF_NINE) {
                Calls.filled(9, mode).write(number, 1, 24).records(0).value(0);
            }
            Calls.filled(9, mode).write(1, 1, 0).write(9, 1, 0).records(2);
            Calls.filled(0, mode).write(NONE, 1, 24).write(0, 1, 24).write(1, 1, 24).records(0);
        }
    }

    private static void writeInOrderWhenFull() {
        Calls.filled(3, EXTEND, 3).write(NONE, 1, 24).records(1).write(1, 1, 0).write(2, 1, 0).write(NONE, 1, 24)
            .records(3);
        Calls.filled(65536, EXTEND, 65536).write(NONE, 1, 24).records(1);
    }

    private static void writeTooLong() {
        for (int mode = OUTPUT; mode <= EXTEND; mode++) {
            Calls.filled(200, mode).digits(2, 9).write(100, 1, 24).write(99, 1, 0).records(1).digits(3, 2)
                .write(100, 1, 0);
        }
        Calls.filled(200, EXTEND, 8).digits(1, 9).write(NONE, 1, 0).cell(9, 1).write(NONE, 1, 24).cell(10, 0)
            .digits(2, 1).write(NONE, 1, 0).cell(10, 1);
        Calls.filled(200, EXTEND).digits(1, 9).write(9, Long.MAX_VALUE, 0).write(8, Long.MIN_VALUE, 0);
    }

    private static void writeWhereOneIs() {
        Calls.filled(9, EXTEND, 2).write(2, 7, 22).cell(2, 20).records(1).value(20);
        Calls.filled(9, BOTH, 1, 9).write(1, 7, 22).write(9, 7, 22).cell(1, 10).cell(9, 90);
        Calls.filled(9, BOTH, 2).write(2, 20, 22).remove(2, 0).write(2, 7, 0).cell(2, 7);
    }

    private static void writeTooLongWhereOneIs() {
        Calls.filled(20, EXTEND, 10).digits(1, 9).write(10, 7, 24).digits(2, 1).write(10, 7, 22).cell(10, 10 * 10);
    }

    private static void writeLeavesPosition() {
        Calls.filled(9, BOTH, 2, 5).write(1, 1, 0).reaches(ON, 1);
        Calls.filled(9, BOTH, 2, 5).write(1, 1, 0).next(BACK, 10);
        Calls.filled(9, BOTH, 2, 5).read(2, 0).write(9, 1, 0).write(3, 1, 0).reaches(ON, 3);
        Calls.filled(9, BOTH, 2, 5).read(5, 0).write(9, 1, 0).write(3, 1, 0).reaches(BACK, 3);
        Calls.filled(9, BOTH, 2, 5).start(EQUAL, 5, 0).write(4, 1, 0).write(6, 1, 0).reaches(ON, 5);
        Calls.filled(9, BOTH, 2, 5).start(EQUAL, 5, 0).write(4, 1, 0).write(6, 1, 0).reaches(BACK, 5);
        Calls.filled(9, BOTH, 2, 5).read(3, 23).write(3, 1, 0).next(ON, 46).next(BACK, 46);
        Calls.filled(9, BOTH, 2, 5).read(5, 0).next(ON, 10).write(6, 1, 0).next(ON, 46).next(BACK, 46);
    }

    private static void refusedWriteLeavesPosition() {
        Calls.filled(9, BOTH, 2, 5).write(5, 1, 22).write(0, 1, 24).reaches(ON, 2);
        Calls.filled(9, BOTH, 2, 5).read(2, 0).write(2, 1, 22).write(10, 1, 24).reaches(ON, 5);
        Calls.filled(9, BOTH, 2, 5).start(EQUAL, 2, 0).write(5, 1, 22).write(NONE, 1, 24).reaches(ON, 2);
        Calls.filled(9, BOTH, 2, 5).read(3, 23).write(2, 1, 22).write(0, 1, 24).next(ON, 46);
    }

    // Promise 4

    private static void readRefused() {
        new Calls(9).read(1, 42).read(0, 42).read(10, 42);
        for (int mode : WRITING_ALONE) {
            Calls.filled(9, mode).read(1, 47).read(0, 47).write(1, 1, 0).read(1, 47).read(10, 47);
        }
        for (int mode : READING) {
            Calls.filled(9, mode, 1).read(1, 0);
        }
    }

    private static void readNoPlace() {
        for (int mode : READING) {
            for (int number : NO_PLACES_OF_NINE) {
                Calls.filled(9, mode, 1, 9).read(number, 23).number(0).value(90);
            }
            Calls.filled(9, mode, 1, 9).read(NONE, 23).number(0);
            Calls.filled(0, mode).read(0, 23).read(1, 23);
        }
    }

    private static void readNoRecord() {
        for (int mode : READING) {
            Calls.filled(9, mode, 2, 8).read(1, 23).read(3, 23).read(7, 23).read(9, 23).number(0).value(80);
            Calls.filled(9, mode).read(1, 23).read(9, 23);
        }
        Calls.filled(9, BOTH, 2).remove(2, 0).read(2, 23);
    }

    private static void missedReadLosesPosition() {
        Calls.filled(9, BOTH, 2, 8).read(5, 23).next(ON, 46).next(BACK, 46).next(ON, 46);
        Calls.filled(9, BOTH, 2, 8).read(2, 0).read(0, 23).next(BACK, 46).next(ON, 46);
        Calls.filled(9, BOTH, 2, 8).start(EQUAL, 2, 0).read(10, 23).next(ON, 46);
    }

    private static void readStandsBehind() {
        for (int mode : READING) {
            Calls.filled(9, mode, 1, 5, 9).read(5, 0).number(5).value(50).reaches(ON, 9).next(ON, 10);
            Calls.filled(9, mode, 1, 5, 9).read(5, 0).reaches(BACK, 1).next(BACK, 10);
            Calls.filled(9, mode, 1, 5, 9).read(1, 0).number(1).next(BACK, 10);
            Calls.filled(9, mode, 1, 5, 9).read(9, 0).number(9).next(ON, 10);
            Calls.filled(9, mode, 1, 5, 9).read(4, 23).read(5, 0).reaches(ON, 9);
        }
    }

    // Promise 5

    private static void valueAheadOfAll() {
        new Calls(9).value(0).open(INPUT, 35).value(0).open(EXTEND, 5).value(0).write(0, 7, 24).value(0)
            .reopen(BOTH).value(0).read(1, 23).value(0).rewrite(1, 7, 23).value(0).rewrite(NONE, 7, 43).value(0)
            .remove(1, 23).value(0).start(NOT_LESS, 1, 23).value(0).next(ON, 46).value(0);
        new Calls(9).open(EXTEND, 5).reopen(INPUT).next(ON, 10).value(0).write(1, 7, 48).value(0);
        new Calls(9).write(1, 7, 42).rewrite(1, 7, 42).value(0);
    }

    private static void valueWritten() {
        new Calls(9).open(OUTPUT, 0).write(5, 50, 0).value(50).write(2, 20, 0).value(20).write(NONE, 60, 0).value(60)
            .write(2, 7, 22).value(60).write(10, 7, 24).value(60);
    }

    private static void valueRead() {
        Calls.filled(9, INPUT, 2, 5, 8).value(80).read(2, 0).value(20).next(ON, 0).value(50).next(BACK, 0).value(20)
            .next(BACK, 10).value(20).next(ON, 46).value(20).read(3, 23).value(20).start(EQUAL, 8, 0).value(20);
        Calls.filled(99, INPUT, 9, 10).digits(1, 9).next(ON, 0).value(90).next(ON, 14).value(90);
    }

    private static void valueRewritten() {
        Calls.filled(9, BOTH, 2, 5).read(2, 0).rewrite(5, 7, 0).value(7).rewrite(3, 8, 23).value(7)
            .rewrite(NONE, 8, 43).value(7).read(2, 0).rewrite(NONE, 9, 0).value(9);
    }

    private static void valueLastOfAll() {
        Calls.filled(9, BOTH, 2, 5).read(2, 0).value(20).remove(NONE, 0).value(20).remove(5, 0).value(20)
            .reopen(OUTPUT).value(20).open(CLOSE, 0).value(20);
    }

    // Promise 6

    private static void startRefused() {
        for (int op = EQUAL; op <= NOT_GREATER; op++) {
            new Calls(9).start(op, 1, 42).start(op, 0, 42);
            Calls.filled(9, OUTPUT).start(op, 1, 47).write(1, 1, 0).start(op, 1, 47);
            Calls.filled(9, EXTEND, 1, 2, 3).start(op, 2, 47).start(op, 0, 47);
            Calls.filled(9, INPUT, 1, 2, 3).start(op, 2, 0);
            Calls.filled(9, BOTH, 1, 2, 3).start(op, 2, 0);
        }
    }

    /** Where start() comes to in a file with the places 2, 5, 8; 0 for nowhere. */
    private static void proveStart(int op, int number, int place) {
        for (int mode : READING) {
            Calls onward = Calls.filled(9, mode, 2, 5, 8).read(5, 0).start(op, number, place == 0 ? 23 : 0).number(0);
            Calls backward = Calls.filled(9, mode, 2, 5, 8).start(op, number, place == 0 ? 23 : 0);
            if (place == 0) {
                onward.next(ON, 46);
                backward.next(BACK, 46);
            } else {
                onward.reaches(ON, place).value(10L * place);
                backward.reaches(BACK, place);
            }
        }
    }

    private static void proveStarts(int op, int[] numbers, int place) {
        for (int number : numbers) {
            proveStart(op, number, place);
        }
    }

    private static void startEqual() {
        proveStart(EQUAL, 2, 2);
        proveStart(EQUAL, 5, 5);
        proveStart(EQUAL, 8, 8);
        proveStarts(EQUAL, new int[] {LOW, NONE, 0, 1, 3, 4, 6, 7, 9, 10, HIGH}, 0);
    }

    private static void startGreater() {
        proveStarts(GREATER, new int[] {LOW, NONE, 0, 1}, 2);
        proveStarts(GREATER, new int[] {2, 3, 4}, 5);
        proveStarts(GREATER, new int[] {5, 6, 7}, 8);
        proveStarts(GREATER, new int[] {8, 9, 10, HIGH - 1, HIGH}, 0);
    }

    private static void startNotLess() {
        proveStarts(NOT_LESS, new int[] {LOW, NONE, 0, 1, 2}, 2);
        proveStarts(NOT_LESS, new int[] {3, 4, 5}, 5);
        proveStarts(NOT_LESS, new int[] {6, 7, 8}, 8);
        proveStarts(NOT_LESS, new int[] {9, 10, HIGH}, 0);
    }

    private static void startLess() {
        proveStarts(LESS, new int[] {LOW, LOW + 1, NONE, 0, 1, 2}, 0);
        proveStarts(LESS, new int[] {3, 4, 5}, 2);
        proveStarts(LESS, new int[] {6, 7, 8}, 5);
        proveStarts(LESS, new int[] {9, 10, HIGH}, 8);
    }

    private static void startNotGreater() {
        proveStarts(NOT_GREATER, new int[] {LOW, NONE, 0, 1}, 0);
        proveStarts(NOT_GREATER, new int[] {2, 3, 4}, 2);
        proveStarts(NOT_GREATER, new int[] {5, 6, 7}, 5);
        proveStarts(NOT_GREATER, new int[] {8, 9, 10, HIGH}, 8);
    }

    private static void startWithoutRecords() {
        for (int op = EQUAL; op <= NOT_GREATER; op++) {
            for (int number : new int[] {LOW, NONE, 0, 1, 9, 10, HIGH}) {
                Calls.filled(9, INPUT).start(op, number, 23).next(ON, 46).next(BACK, 46);
                Calls.filled(0, BOTH).start(op, number, 23).next(ON, 46).next(BACK, 46);
            }
        }
    }

    private static void missedStartLosesPosition() {
        Calls.filled(9, BOTH, 2, 8).read(2, 0).start(EQUAL, 3, 23).next(ON, 46).next(BACK, 46);
        Calls.filled(9, BOTH, 2, 8).start(EQUAL, 2, 0).start(GREATER, 8, 23).next(ON, 46).next(BACK, 46);
        Calls.filled(9, BOTH, 2, 8).start(EQUAL, 2, 0).start(LESS, 2, 23).next(BACK, 46);
        Calls.filled(9, BOTH, 2, 8).start(EQUAL, 3, 23).start(EQUAL, 8, 0).reaches(ON, 8);
    }

    // Promise 7

    private static void nextRefused() {
        new Calls(9).next(ON, 42).next(BACK, 42);
        for (int mode : WRITING_ALONE) {
            Calls.filled(9, mode).next(ON, 47).write(1, 1, 0).next(ON, 47).next(BACK, 47);
        }
        for (int mode : READING) {
            Calls.filled(9, mode, 1).next(ON, 0);
        }
    }

    private static void nextWhenLost() {
        for (int mode : READING) {
            Calls.filled(9, mode, 2, 8).read(5, 23).next(ON, 46).next(ON, 46).next(BACK, 46).number(0).value(80);
            Calls.filled(9, mode, 2, 8).start(EQUAL, 5, 23).next(BACK, 46).next(BACK, 46).next(ON, 46);
        }
    }

    private static void nextAtTheEnd() {
        for (int mode : READING) {
            Calls.filled(9, mode, 2, 8).read(8, 0).next(ON, 10).next(ON, 46).next(ON, 46);
            Calls.filled(9, mode, 2, 8).read(8, 0).next(ON, 10).next(BACK, 46).next(ON, 46);
            Calls.filled(9, mode, 2, 8).read(2, 0).next(BACK, 10).next(BACK, 46).next(BACK, 46);
            Calls.filled(9, mode, 2, 8).read(2, 0).next(BACK, 10).next(ON, 46).next(BACK, 46);
        }
    }

    private static void nextOneFromPosition() {
        for (int mode : READING) {
            Calls.filled(9, mode, 1, 2, 5, 9).reaches(ON, 1).reaches(ON, 2).reaches(ON, 5).reaches(ON, 9).next(ON, 10);
        }
        Calls.filled(9, BOTH, 2, 5, 8).read(5, 0).remove(NONE, 0).reaches(ON, 8);
        Calls.filled(9, BOTH, 2, 5, 8).read(5, 0).remove(NONE, 0).write(5, 7, 0).reaches(ON, 8);
    }

    private static void oneAheadOfPosition() {
        for (int mode : READING) {
            Calls.filled(9, mode, 1, 2, 5, 9).read(9, 0).reaches(BACK, 5).reaches(BACK, 2).reaches(ON, 5)
                .reaches(BACK, 2).reaches(BACK, 1).next(BACK, 10);
        }
        Calls.filled(9, BOTH, 2, 5, 8).read(5, 0).remove(NONE, 0).reaches(BACK, 2);
        Calls.filled(9, BOTH, 2, 5, 8).read(5, 0).remove(NONE, 0).write(5, 7, 0).reaches(BACK, 2);
    }

    private static void nextAtAPlace() {
        for (int mode : READING) {
            for (int place : new int[] {2, 5, 8}) {
                Calls.filled(9, mode, 2, 5, 8).start(EQUAL, place, 0).reaches(ON, place).value(10L * place);
                Calls.filled(9, mode, 2, 5, 8).start(EQUAL, place, 0).reaches(BACK, place).value(10L * place);
            }
            Calls.filled(9, mode, 2, 5, 8).start(EQUAL, 5, 0).reaches(ON, 5).reaches(ON, 8);
            Calls.filled(9, mode, 2, 5, 8).start(EQUAL, 5, 0).reaches(BACK, 5).reaches(BACK, 2);
        }
        Calls.filled(9, BOTH, 2, 5, 8).start(EQUAL, 5, 0).rewrite(5, 7, 0).reaches(ON, 5).value(7);
    }

    private static void nextWhereNoneIsStill() {
        Calls.filled(9, BOTH, 2, 5, 8).start(EQUAL, 5, 0).remove(5, 0).reaches(ON, 8);
        Calls.filled(9, BOTH, 2, 5, 8).start(EQUAL, 5, 0).remove(5, 0).reaches(BACK, 2);
        Calls.filled(9, BOTH, 2, 5, 8).start(EQUAL, 8, 0).remove(8, 0).next(ON, 10).next(BACK, 46);
        Calls.filled(9, BOTH, 2, 5, 8).start(EQUAL, 2, 0).remove(2, 0).next(BACK, 10).next(ON, 46);
        Calls.filled(9, BOTH, 2, 5, 8).start(EQUAL, 8, 0).remove(8, 0).reaches(BACK, 5);
        Calls.filled(9, BOTH, 2, 5, 8).start(EQUAL, 5, 0).remove(5, 0).write(5, 7, 0).reaches(ON, 5).value(7);
        Calls.filled(9, BOTH, 2, 5, 8).start(EQUAL, 5, 0).remove(5, 0).write(5, 7, 0).reaches(BACK, 5).value(7);
    }

    private static void nextWithoutOne() {
        for (int mode : READING) {
            Calls.filled(9, mode).next(ON, 10).number(0).next(ON, 46);
            Calls.filled(0, mode).next(ON, 10).next(BACK, 46);
            Calls.filled(1, mode, 1).reaches(ON, 1).next(ON, 10).number(0).value(10);
            Calls.filled(1, mode, 1).reaches(ON, 1).next(BACK, 10).number(0).value(10);
        }
        Calls.filled(9, BOTH, 5).read(5, 0).remove(NONE, 0).next(ON, 10);
        Calls.filled(9, BOTH, 5).read(5, 0).remove(NONE, 0).next(BACK, 10);
    }

    private static void nextTooLong() {
        for (int mode : READING) {
            Calls.filled(200, mode, 9, 10, 99, 100).digits(1, 9).reaches(ON, 9).next(ON, 14).number(0).value(90);
            Calls.filled(200, mode, 9, 10, 99, 100).digits(2, 9).start(EQUAL, 99, 0).reaches(ON, 99).next(ON, 14);
            Calls.filled(200, mode, 9, 10, 99, 100).digits(1, 9).read(99, 0).next(BACK, 14).number(0).value(990);
            Calls.filled(200, mode, 9, 10, 99, 100).digits(1, 9).read(10, 0).reaches(BACK, 9);
            Calls.filled(200, mode, 9, 10, 99, 100).digits(2, 9).start(EQUAL, 100, 0).next(ON, 14).number(0);
            Calls.filled(200, mode, 9, 10, 99, 100).digits(2, 9).start(EQUAL, 100, 0).digits(3, 2).reaches(ON, 100);
        }
        Calls.filled(200, BOTH, 9, 10).digits(1, 9).start(EQUAL, 9, 0).remove(9, 0).next(ON, 14);
    }

    private static void tooLongLosesPosition() {
        for (int mode : READING) {
            Calls.filled(200, mode, 9, 10).digits(1, 9).reaches(ON, 9).next(ON, 14).next(ON, 46).next(BACK, 46);
            Calls.filled(200, mode, 10, 11).digits(1, 9).next(ON, 14).digits(9, 1).next(ON, 46).next(BACK, 46);
            Calls.filled(200, mode, 9, 10).digits(1, 9).start(EQUAL, 10, 0).next(BACK, 14).next(BACK, 46)
                .start(EQUAL, 9, 0).reaches(BACK, 9);
        }
    }

    private static void backAheadOfAll() {
        for (int mode : READING) {
            Calls.filled(9, mode, 1, 2).next(BACK, 10).number(0).next(BACK, 46).next(ON, 46);
            Calls.filled(9, mode, 1, 2).next(BACK, 10).next(ON, 46);
            Calls.filled(9, mode).next(BACK, 10).next(BACK, 46);
        }
    }

    private static void endIsOverByThree() {
        for (int mode : READING) {
            Calls.filled(9, mode, 2, 8).next(BACK, 10).reopen(mode).reaches(ON, 2);
            Calls.filled(9, mode, 2, 8).next(BACK, 10).read(2, 0).reaches(ON, 8);
            Calls.filled(9, mode, 2, 8).next(BACK, 10).start(EQUAL, 8, 0).reaches(BACK, 8);
            Calls.filled(9, mode, 2, 8).read(8, 0).next(ON, 10).next(ON, 46).start(NOT_LESS, 0, 0).reaches(ON, 2);
            Calls.filled(9, mode, 2, 8).read(8, 0).next(ON, 10).read(5, 23).next(BACK, 46);
        }
    }

    private static void endIsOverByNoOther() {
        Calls.filled(9, BOTH, 2, 8).read(8, 0).next(ON, 10).write(9, 1, 0).next(ON, 46);
        Calls.filled(9, BOTH, 2, 8).read(8, 0).next(ON, 10).rewrite(2, 7, 0).next(BACK, 46);
        Calls.filled(9, BOTH, 2, 8).read(8, 0).next(ON, 10).remove(8, 0).next(BACK, 46);
        Calls.filled(9, BOTH, 2, 8).read(8, 0).next(ON, 10).digits(1, 9).cell(2, 20).count(3, 8).next(BACK, 46);
        Calls.filled(9, BOTH, 2, 8).read(8, 0).next(ON, 10).open(BOTH, 41).open(9, NONE).start(9, 2, NONE)
            .next(BACK, 46);
    }

    // Promise 8

    private static void rewriteRefused() {
        new Calls(9).rewrite(1, 1, 42).rewrite(NONE, 1, 42).rewrite(0, 1, 42);
        for (int mode : new int[] {INPUT, OUTPUT, EXTEND}) {
            Calls.filled(9, mode, 1).rewrite(1, 7, 49).rewrite(NONE, 7, 49).rewrite(0, 7, 49).rewrite(5, 7, 49)
                .value(10);
        }
        Calls.filled(9, INPUT, 1).read(1, 0).rewrite(NONE, 7, 49).rewrite(1, 7, 49).cell(1, 10);
    }

    private static void rewriteReadLast() {
        Calls.filled(9, BOTH, 2, 5).read(5, 0).rewrite(NONE, 7, 0).cell(5, 7).cell(2, 20).records(2);
        Calls.filled(9, BOTH, 2, 5).reaches(ON, 2).rewrite(NONE, 7, 0).cell(2, 7).cell(5, 50);
        Calls.filled(9, BOTH, 2, 5).start(EQUAL, 5, 0).reaches(BACK, 5).rewrite(NONE, 7, 0).cell(5, 7);
    }

    private static void rewriteNoneReadLast() {
        Calls.filled(9, BOTH, 2, 5).rewrite(NONE, 7, 43).cell(2, 20).cell(5, 50);
        Calls.filled(9, BOTH).rewrite(NONE, 7, 43).records(0);
        Calls.filled(9, BOTH, 2, 5).start(EQUAL, 5, 0).rewrite(NONE, 7, 43).cell(5, 50);
        Calls.filled(9, BOTH, 2, 5).read(5, 0).rewrite(NONE, 7, 0).rewrite(NONE, 8, 43).cell(5, 7);
        Calls.filled(9, BOTH, 2, 5).read(5, 0).remove(5, 0).rewrite(NONE, 8, 43).records(1);
        Calls.filled(9, BOTH, 2, 5).read(5, 0).remove(5, 0).write(5, 7, 0).rewrite(NONE, 8, 43).cell(5, 7);
        Calls.filled(9, BOTH, 2, 5).read(5, 0).reopen(BOTH).rewrite(NONE, 8, 43).cell(5, 50);
    }

    private static void rewriteNoneThere() {
        for (int number : NO_PLACES_OF_NINE) {
            Calls.filled(9, BOTH, 1, 9).rewrite(number, 7, 23).records(2).value(90);
        }
        Calls.filled(9, BOTH, 1, 9).rewrite(5, 7, 23).cell(5, 0).records(2).read(1, 0).rewrite(5, 7, 23).cell(1, 10);
        Calls.filled(0, BOTH).rewrite(0, 7, 23).rewrite(1, 7, 23);
    }

    private static void rewriteOfANumber() {
        Calls.filled(9, BOTH, 1, 5, 9).rewrite(1, 7, 0).rewrite(9, Long.MIN_VALUE, 0).cell(1, 7).cell(5, 50)
            .cell(9, Long.MIN_VALUE).records(3).rewrite(1, 0, 0).cell(1, 0).records(3).count(4, 1);
        Calls.filled(9, BOTH, 1, 5, 9).read(5, 0).rewrite(9, 7, 0).cell(5, 50).cell(9, 7);
        Calls.filled(20, BOTH, 10).digits(1, 9).rewrite(10, 7, 0).cell(10, 7);
    }

    private static void rewriteLeavesPosition() {
        Calls.filled(9, BOTH, 2, 5, 8).rewrite(5, 7, 0).reaches(ON, 2);
        Calls.filled(9, BOTH, 2, 5, 8).read(5, 0).rewrite(2, 7, 0).rewrite(3, 7, 23).rewrite(NONE, 7, 43).reaches(ON, 8);
        Calls.filled(9, BOTH, 2, 5, 8).start(EQUAL, 5, 0).rewrite(8, 7, 0).rewrite(9, 7, 23).reaches(ON, 5);
        Calls.filled(9, BOTH, 2, 5, 8).read(3, 23).rewrite(2, 7, 0).next(ON, 46);
    }

    // Promise 9

    private static void removeRefused() {
        new Calls(9).remove(1, 42).remove(NONE, 42).remove(0, 42);
        for (int mode : new int[] {INPUT, OUTPUT, EXTEND}) {
            Calls.filled(9, mode, 1).remove(1, 49).remove(NONE, 49).remove(0, 49).remove(5, 49);
        }
        Calls.filled(9, INPUT, 1).read(1, 0).remove(NONE, 49).remove(1, 49).cell(1, 10).records(1);
    }

    private static void removeReadLast() {
        Calls.filled(9, BOTH, 2, 5).read(5, 0).remove(NONE, 0).cell(5, 0).cell(2, 20).records(1).number(0);
        Calls.filled(9, BOTH, 2, 5).reaches(ON, 2).remove(NONE, 0).cell(2, 0).cell(5, 50).records(1);
    }

    private static void removeNoneReadLast() {
        Calls.filled(9, BOTH, 2, 5).remove(NONE, 43).records(2);
        Calls.filled(9, BOTH).remove(NONE, 43).records(0);
        Calls.filled(9, BOTH, 2, 5).start(EQUAL, 5, 0).remove(NONE, 43).records(2);
        Calls.filled(9, BOTH, 2, 5).read(5, 0).remove(NONE, 0).remove(NONE, 43).records(1);
        Calls.filled(9, BOTH, 2, 5).read(5, 0).rewrite(NONE, 7, 0).remove(NONE, 43).records(2);
        Calls.filled(9, BOTH, 2, 5).read(5, 0).remove(2, 0).remove(NONE, 43).cell(5, 50);
    }

    private static void removeNoneThere() {
        for (int number : NO_PLACES_OF_NINE) {
            Calls.filled(9, BOTH, 1, 9).remove(number, 23).records(2);
        }
        Calls.filled(9, BOTH, 1, 9).remove(5, 23).records(2).remove(9, 0).remove(9, 23).records(1);
        Calls.filled(0, BOTH).remove(0, 23).remove(1, 23);
    }

    private static void theRecordGoes() {
        Calls.filled(9, BOTH, 1, 5, 9).remove(5, 0).cell(5, 0).cell(1, 10).cell(9, 90).records(2).read(5, 23);
        Calls.filled(9, BOTH, 1, 5, 9).remove(1, 0).remove(9, 0).count(3, 5).count(4, 5).remove(5, 0).records(0)
            .count(3, 0).count(4, 0);
        Calls.filled(9, BOTH, 1, 5, 9).remove(1, 0).reaches(ON, 5);
        Calls.filled(9, BOTH, 5).remove(5, 0).write(5, 7, 0).cell(5, 7).records(1);
        Calls.filled(20, BOTH, 10).digits(1, 9).remove(10, 0).records(0);
        Calls.filled(9, BOTH, 5).remove(5, 0).reopen(INPUT).count(1, 1).next(ON, 10);
    }

    private static void removeLeavesPosition() {
        Calls.filled(9, BOTH, 2, 5, 8).remove(2, 0).reaches(ON, 5);
        Calls.filled(9, BOTH, 2, 5, 8).read(5, 0).remove(5, 0).reaches(ON, 8).reaches(BACK, 2);
        Calls.filled(9, BOTH, 2, 5, 8).read(2, 0).remove(8, 0).remove(9, 23).remove(NONE, 43).reaches(ON, 5);
        Calls.filled(9, BOTH, 2, 5, 8).start(EQUAL, 5, 0).remove(2, 0).remove(2, 23).reaches(BACK, 5).next(BACK, 10);
        Calls.filled(9, BOTH, 2, 5, 8).read(3, 23).remove(2, 0).next(ON, 46);
    }

    // Promises 10 to 14

    private static void numberOfReadLast() {
        Calls.filled(65536, BOTH, 1, 65536).reaches(ON, 1).reaches(ON, 65536).read(1, 0).number(1).read(65536, 0)
            .number(65536);
    }

    private static void numberOfNone() {
        new Calls(9).number(0).open(INPUT, 35).number(0).open(EXTEND, 5).number(0).write(4, 1, 0).number(0);
        Calls.filled(9, BOTH, 2).number(0).start(EQUAL, 2, 0).number(0).reaches(ON, 2).next(ON, 10).number(0)
            .read(2, 0).remove(NONE, 0).number(0).read(2, 23).number(0).next(ON, 46).number(0);
        Calls.filled(9, BOTH, 2).read(2, 0).open(CLOSE, 0).number(0);
    }

    private static void cellOfAPlace() {
        Calls.filled(9, INPUT, 1, 5, 9).cell(1, 10).cell(5, 50).cell(9, 90).open(CLOSE, 0).cell(1, 10).cell(9, 90);
        Calls.filled(65536, OUTPUT).write(65536, 7, 0).cell(65536, 7);
    }

    private static void cellWithoutRecord() {
        new Calls(9).cell(1, 0).cell(9, 0);
        Calls.filled(9, INPUT, 1, 5, 9).cell(2, 0).cell(4, 0).cell(6, 0).cell(8, 0);
        Calls.filled(65536, INPUT).cell(1, 0).cell(65536, 0);
    }

    private static void cellOutside() {
        for (int i : NO_PLACES_OF_NINE) {
            new Calls(9).noCell(i);
            Calls.filled(9, BOTH, 1, 9).read(9, 0).noCell(i).number(9).value(90).reaches(BACK, 1);
        }
        new Calls(9).noCell(NONE);
        new Calls(0).noCell(LOW).noCell(NONE).noCell(0).noCell(1).noCell(HIGH);
        new Calls(1).noCell(0).cell(1, 0).noCell(2);
        new Calls(HIGH).noCell(0).cell(1, 0).cell(65536, 0).noCell(65537);
    }

    private static void howManyRecords() {
        new Calls(2).records(0).open(EXTEND, 5).records(0).write(2, 0, 0).records(1).write(2, 1, 22).records(1)
            .write(1, 1, 0).records(2).write(NONE, 1, 24).records(2).reopen(BOTH).records(2).rewrite(1, 5, 0)
            .records(2).remove(1, 0).records(1).remove(1, 23).records(1).remove(2, 0).records(0).open(CLOSE, 0)
            .records(0);
        Calls.filled(9, EXTEND, 1, 2, 3).open(CLOSE, 0).records(3).open(OUTPUT, 0).records(0);
    }

    private static void digitsItHeld() {
        Calls run = new Calls(9).digits(1, 9).digits(1, 1);
        for (int n = 2; n <= 9; n++) {
            run.digits(n, n - 1).digits(n, n);
        }
        run.digits(4, 9).open(EXTEND, 5).digits(4, 4).reopen(OUTPUT).digits(4, 4).reopen(BOTH).digits(9, 4);
    }

    private static void digitsNotSo() {
        for (int n : new int[] {LOW, -9, -1, 0, 10, 11, HIGH}) {
            new Calls(9).digits(n, NONE).digits(9, 9);
            Calls.filled(99, EXTEND).digits(1, 9).digits(n, NONE).write(10, 1, 24).write(9, 1, 0).digits(2, 1);
        }
    }

    private static void countPlaces() {
        new Calls(0).count(0, 0);
        new Calls(1).count(0, 1);
        Calls.filled(9, BOTH, 2, 5).count(0, 9);
        new Calls(65537).count(0, 65536);
        new Calls(-1).count(0, 0);
    }

    private static void countThere() {
        new Calls(9).count(1, 0).open(BOTH, 35).count(1, 0).open(EXTEND, 5).count(1, 1).open(CLOSE, 0).count(1, 1);
        new Calls(9).open(OUTPUT, 0).count(1, 1).open(CLOSE, 0).count(1, 1);
        new Calls(9).open(INPUT, 35).open(CLOSE, 42).open(9, NONE).count(1, 0);
    }

    private static void countMode() {
        new Calls(9).count(2, NONE).open(INPUT, 35).count(2, NONE);
        for (int mode = INPUT; mode <= EXTEND; mode++) {
            Calls.filled(9, mode).count(2, mode).open(CLOSE, 0).count(2, NONE);
        }
    }

    private static void countGreatestAndLeast() {
        Calls.filled(9, EXTEND, 5).count(3, 5).count(4, 5).write(2, 1, 0).count(3, 5).count(4, 2).write(8, 1, 0)
            .count(3, 8).count(4, 2).write(6, 1, 0).count(3, 8).count(4, 2);
        Calls.filled(65536, INPUT, 1, 65536).count(3, 65536).count(4, 1);
        Calls.filled(9, BOTH, 2, 5, 8).remove(8, 0).count(3, 5).remove(2, 0).count(4, 5);
    }

    private static void countWithoutRecords() {
        new Calls(9).count(3, 0).count(4, 0).open(EXTEND, 5).count(3, 0).count(4, 0);
        Calls.filled(9, OUTPUT, 2, 5).count(3, 0).count(4, 0);
        Calls.filled(9, BOTH, 5).remove(5, 0).count(3, 0).count(4, 0);
        new Calls(0).count(3, 0).count(4, 0);
    }

    private static void countOthers() {
        for (int what : new int[] {LOW, -2, -1, 5, 6, HIGH}) {
            new Calls(9).count(what, NONE);
            Calls.filled(9, BOTH, 2, 5).count(what, NONE);
        }
    }

    private static void making() {
        String p = "Promise 1";
        Calls.sentence(p, "Places 1 .. most, 0 .. 65536", PromisesEdgesTest::mostWithin);
        Calls.sentence(p + ", too large", "(numbers outside are held to these)", PromisesEdgesTest::mostTooLarge);
        Calls.sentence(p + ", too small", "(numbers outside are held to these)", PromisesEdgesTest::mostTooSmall);
    }

    private static void opening() {
        String p = "Promise 2";
        Calls.sentence(p, "Modes 0, 2: 41, 35, 0", PromisesEdgesTest::openForReading);
        Calls.sentence(p, "mode 1: 41, 0", PromisesEdgesTest::openForOutput);
        Calls.sentence(p, "it is there, without records", PromisesEdgesTest::outputLeavesNoRecords);
        Calls.sentence(p, "mode 3: 41, 5 when it was not there, 0", PromisesEdgesTest::openForExtending);
        Calls.sentence(p, "Mode 4: it is closed: 42, 0.", PromisesEdgesTest::closing);
        Calls.sentence(p, "The position is ahead of all.", PromisesEdgesTest::openGoesAheadOfAll);
    }

    private static void writing() {
        String p = "Promise 3";
        Calls.sentence(p, "In modes 1, 2, 3: 42, 48.", PromisesEdgesTest::writeRefused);
        Calls.sentence(p, "number NONE (not in mode 2: 24)", PromisesEdgesTest::inOrderNotInBoth);
        Calls.sentence(p, "the place behind the greatest that has a record", PromisesEdgesTest::inOrderBehindTheGreatest);
        Calls.sentence(p, "(1 without)", PromisesEdgesTest::inOrderWithoutRecords);
        Calls.sentence(p, "24 when it is no place", PromisesEdgesTest::writeOutside);
        Calls.sentence(p, "Of it, or of the number told: 24 when it is no place", PromisesEdgesTest::writeInOrderWhenFull);
        Calls.sentence(p, "or what is written is too long", PromisesEdgesTest::writeTooLong);
        Calls.sentence(p, "22; 0.", PromisesEdgesTest::writeWhereOneIs);
        Calls.sentence(p, "or what is written is too long; 22; 0.", PromisesEdgesTest::writeTooLongWhereOneIs);
        Calls.sentence(p, "The position stays.", PromisesEdgesTest::writeLeavesPosition);
        Calls.sentence(p + ", 22 and 24", "The position stays.", PromisesEdgesTest::refusedWriteLeavesPosition);
    }

    private static void reading() {
        String p = "Promise 4";
        Calls.sentence(p, "In modes 0, 2: 42, 47", PromisesEdgesTest::readRefused);
        Calls.sentence(p, "23 (no place,", PromisesEdgesTest::readNoPlace);
        Calls.sentence(p, "or none there)", PromisesEdgesTest::readNoRecord);
        Calls.sentence(p, "the position is lost", PromisesEdgesTest::missedReadLosesPosition);
        Calls.sentence(p, "0: it is the record read last, the position behind it.", PromisesEdgesTest::readStandsBehind);
        p = "Promise 5";
        Calls.sentence(p, "0 ahead of all.", PromisesEdgesTest::valueAheadOfAll);
        Calls.sentence(p, "written,", PromisesEdgesTest::valueWritten);
        Calls.sentence(p, "The record that was read,", PromisesEdgesTest::valueRead);
        Calls.sentence(p, "or that one was rewritten to,", PromisesEdgesTest::valueRewritten);
        Calls.sentence(p, "last of all", PromisesEdgesTest::valueLastOfAll);
    }

    private static void starting() {
        String p = "Promise 6";
        Calls.sentence(p, "In modes 0, 2: 42, 47.", PromisesEdgesTest::startRefused);
        Calls.sentence(p, "equal to number (op = 0)", PromisesEdgesTest::startEqual);
        Calls.sentence(p, "greater (1)", PromisesEdgesTest::startGreater);
        Calls.sentence(p, "not less (2)", PromisesEdgesTest::startNotLess);
        Calls.sentence(p, "or the last one that is less (3)", PromisesEdgesTest::startLess);
        Calls.sentence(p, "not greater (4)", PromisesEdgesTest::startNotGreater);
        Calls.sentence(p + ", no records", "23: it is lost.", PromisesEdgesTest::startWithoutRecords);
        Calls.sentence(p, "23: it is lost.", PromisesEdgesTest::missedStartLosesPosition);
    }

    private static void goingThrough() {
        String p = "Promise 7";
        Calls.sentence(p, "In modes 0, 2: 42, 47", PromisesEdgesTest::nextRefused);
        Calls.sentence(p, "46 it is lost,", PromisesEdgesTest::nextWhenLost);
        Calls.sentence(p, "or was at the end already (10, in either direction)", PromisesEdgesTest::nextAtTheEnd);
        Calls.sentence(p, "the next record", PromisesEdgesTest::nextOneFromPosition);
        Calls.sentence(p, "(back: the one ahead) from the position", PromisesEdgesTest::oneAheadOfPosition);
        Calls.sentence(p, "at a place: that one,", PromisesEdgesTest::nextAtAPlace);
        Calls.sentence(p, "if there is a record still", PromisesEdgesTest::nextWhereNoneIsStill);
        Calls.sentence(p, "10 there is none", PromisesEdgesTest::nextWithoutOne);
        Calls.sentence(p, "14 its number is too long", PromisesEdgesTest::nextTooLong);
        Calls.sentence(p, "14 its number is too long: the position is lost", PromisesEdgesTest::tooLongLosesPosition);
        Calls.sentence(p, "(Ahead of all: back is the end.", PromisesEdgesTest::backAheadOfAll);
        Calls.sentence(p, "The end is over by open(), read(), start().", PromisesEdgesTest::endIsOverByThree);
        Calls.sentence(p + ", no others", "The end is over by open(), read(), start().",
            PromisesEdgesTest::endIsOverByNoOther);
    }

    private static void rewriting() {
        String p = "Promise 8";
        Calls.sentence(p, "In mode 2: 42, 49.", PromisesEdgesTest::rewriteRefused);
        Calls.sentence(p, "number NONE: the record read last,", PromisesEdgesTest::rewriteReadLast);
        Calls.sentence(p, "if it is there: 43", PromisesEdgesTest::rewriteNoneReadLast);
        Calls.sentence(p, "else that of a number: 23", PromisesEdgesTest::rewriteNoneThere);
        Calls.sentence(p, "0: it becomes v.", PromisesEdgesTest::rewriteOfANumber);
        Calls.sentence(p + ", and no more", "0: it becomes v.", PromisesEdgesTest::rewriteLeavesPosition);
    }

    private static void removing() {
        String p = "Promise 9";
        Calls.sentence(p + ", 42 and 49", "As rewrite", PromisesEdgesTest::removeRefused);
        Calls.sentence(p + ", the record read last", "As rewrite", PromisesEdgesTest::removeReadLast);
        Calls.sentence(p + ", 43", "As rewrite", PromisesEdgesTest::removeNoneReadLast);
        Calls.sentence(p + ", 23", "As rewrite", PromisesEdgesTest::removeNoneThere);
        Calls.sentence(p, "the record goes.", PromisesEdgesTest::theRecordGoes);
        Calls.sentence(p + ", and no more", "the record goes.", PromisesEdgesTest::removeLeavesPosition);
    }

    private static void asking() {
        Calls.sentence("Promise 10", "The place of the record read last", PromisesEdgesTest::numberOfReadLast);
        Calls.sentence("Promise 10", "0 for none.", PromisesEdgesTest::numberOfNone);
        Calls.sentence("Promise 11", "The record of a place", PromisesEdgesTest::cellOfAPlace);
        Calls.sentence("Promise 11", "0 for none.", PromisesEdgesTest::cellWithoutRecord);
        Calls.sentence("Promise 11", "ArrayIndexOutOfBoundsException when there is no such place.",
            PromisesEdgesTest::cellOutside);
        Calls.sentence("Promise 12", "How many records there are.", PromisesEdgesTest::howManyRecords);
        Calls.sentence("Promise 13", "The key item holds n digits (1 .. 9): how many it held",
            PromisesEdgesTest::digitsItHeld);
        Calls.sentence("Promise 13", "NONE when n is not so.", PromisesEdgesTest::digitsNotSo);
        String p = "Promise 14";
        Calls.sentence(p, "what = 0 places", PromisesEdgesTest::countPlaces);
        Calls.sentence(p, "1 whether it is there", PromisesEdgesTest::countThere);
        Calls.sentence(p, "2 its mode (NONE when it is closed)", PromisesEdgesTest::countMode);
        Calls.sentence(p, "3 the greatest place with a record, 4 the least one", PromisesEdgesTest::countGreatestAndLeast);
        Calls.sentence(p, "(0 without)", PromisesEdgesTest::countWithoutRecords);
        Calls.sentence(p, "NONE for others.", PromisesEdgesTest::countOthers);
    }

    public static void main(String[] args) {
        making();
        opening();
        writing();
        reading();
        starting();
        goingThrough();
        rewriting();
        removing();
        asking();
        Calls.end();
    }
}
