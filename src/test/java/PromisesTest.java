/** Each promise of the document by itself: ordinary inputs, the edges that it names, wrong inputs. */
public final class PromisesTest {
    private static final int NONE = RelativeFiles.NONE;
    private static final int INPUT = 0;
    private static final int OUTPUT = 1;
    private static final int BOTH = 2;
    private static final int EXTEND = 3;
    private static final int CLOSE = 4;

    private static int wrong = 0;
    private static int promise = 0;

    private static void due(String call, long got, long want) {
        if (got != want) {
            wrong++;
            System.out.println("promise " + promise + ": " + call + " answered " + got + ", due is " + want);
        }
    }

    private static void dueNoPlace(RelativeFiles x, int i) {
        try {
            long got = x.cell(i);
            wrong++;
            System.out.println("promise " + promise + ": cell(" + i + ") answered " + got + ", due is a throw");
        } catch (ArrayIndexOutOfBoundsException e) {
            // Thrown by the class's own statement, not by an array of the machine.
            due("cell(" + i + ") throws in cell itself", "cell".equals(e.getStackTrace()[0].getMethodName()) ? 1 : 0, 1);
        }
    }

    /** A file with the record 10 * place in each of the places, open in the mode. */
    private static RelativeFiles file(int most, int mode, int... places) {
        RelativeFiles x = new RelativeFiles(most);
        due("set up: open(1)", x.open(OUTPUT), 0);
        for (int place : places) {
            due("set up: write(" + place + ")", x.write(place, 10L * place), 0);
        }
        due("set up: open(4)", x.open(CLOSE), 0);
        due("set up: open(" + mode + ")", x.open(mode), 0);
        return x;
    }

    private static void reopen(RelativeFiles x, int mode) {
        due("open(4)", x.open(CLOSE), 0);
        due("open(" + mode + ")", x.open(mode), 0);
    }

    private static void dueNext(RelativeFiles x, boolean back, int place) {
        due("next(" + back + ")", x.next(back), 0);
        due("number()", x.number(), place);
    }

    private static void newObject() {
        int[] told = {0, 1, 200, 65535, 65536, 65537, Integer.MAX_VALUE, -1, Integer.MIN_VALUE};
        int[] held = {0, 1, 200, 65535, 65536, 65536, 65536, 0, 0};
        for (int i = 0; i < told.length; i++) {
            RelativeFiles x = new RelativeFiles(told[i]);
            due("new(" + told[i] + ").count(0)", x.count(0), held[i]);
            due("count(1)", x.count(1), 0);
            due("count(2)", x.count(2), NONE);
            due("records()", x.records(), 0);
            due("value()", x.value(), 0);
            due("number()", x.number(), 0);
            due("open(3)", x.open(EXTEND), 5);
            due("write(last)", x.write(held[i], 7), held[i] == 0 ? 24 : 0);
            due("write(last + 1)", x.write(held[i] + 1, 7), 24);
        }
    }

    private static void openAndClose() {
        RelativeFiles x = new RelativeFiles(5);
        int[] nothing = {-1, 5, Integer.MIN_VALUE, Integer.MAX_VALUE};
        for (int mode : nothing) {
            due("open(" + mode + ") closed", x.open(mode), NONE);
        }
        due("open(4) closed", x.open(CLOSE), 42);
        due("open(0) not there", x.open(INPUT), 35);
        due("open(2) not there", x.open(BOTH), 35);
        due("count(1)", x.count(1), 0);
        due("count(2)", x.count(2), NONE);
        due("open(3) not there", x.open(EXTEND), 5);
        due("count(1)", x.count(1), 1);
        due("write", x.write(2, 8), 0);
        for (int mode = INPUT; mode <= EXTEND; mode++) {
            due("open(" + mode + ") open", x.open(mode), 41);
        }
        for (int mode : nothing) {
            due("open(" + mode + ") open", x.open(mode), NONE);
        }
        due("count(2)", x.count(2), EXTEND);
        reopen(x, EXTEND);
        due("records() kept by extend", x.records(), 1);
        reopen(x, INPUT);
        due("records() kept by input", x.records(), 1);
        due("count(2)", x.count(2), INPUT);
        reopen(x, BOTH);
        due("records() kept by both", x.records(), 1);
        reopen(x, OUTPUT);
        due("records() after output", x.records(), 0);
        due("cell(2) after output", x.cell(2), 0);
        due("open(4)", x.open(CLOSE), 0);
        due("open(4) again", x.open(CLOSE), 42);
        due("open(1) on a new one", new RelativeFiles(5).open(OUTPUT), 0);
    }

    private static void openSetsPosition() {
        RelativeFiles x = file(9, BOTH, 3, 6);
        dueNext(x, false, 3);
        due("open(0) open", x.open(INPUT), 41);
        due("open(9)", x.open(9), NONE);
        due("number() stays", x.number(), 3);
        dueNext(x, false, 6);
        due("open(4)", x.open(CLOSE), 0);
        due("number() closed", x.number(), 0);
        due("open(4)", x.open(CLOSE), 42);
        due("open(0)", x.open(INPUT), 0);
        dueNext(x, false, 3);
        due("read(1)", x.read(1), 23);
        reopen(x, BOTH);
        dueNext(x, false, 3);
    }

    private static void writeStatuses() {
        RelativeFiles x = new RelativeFiles(12);
        due("write closed", x.write(1, 1), 42);
        due("write(99) closed", x.write(99, 1), 42);
        due("open(1)", x.open(OUTPUT), 0);
        due("write(-1) first", x.write(NONE, Long.MAX_VALUE), 0);
        due("cell(1)", x.cell(1), Long.MAX_VALUE);
        due("write(5)", x.write(5, 0), 0);
        due("records() counts a record of 0", x.records(), 2);
        due("write(5) again", x.write(5, 3), 22);
        due("cell(5)", x.cell(5), 0);
        due("write(3)", x.write(3, Long.MIN_VALUE), 0);
        due("write(-1) behind the greatest", x.write(NONE, 66), 0);
        due("cell(6)", x.cell(6), 66);
        due("cell(3)", x.cell(3), Long.MIN_VALUE);
        int[] outside = {0, 13, -2, Integer.MIN_VALUE, Integer.MAX_VALUE};
        for (int number : outside) {
            due("write(" + number + ")", x.write(number, 1), 24);
        }
        reopen(x, EXTEND);
        due("write(-1) extend", x.write(NONE, 77), 0);
        due("cell(7)", x.cell(7), 77);
        reopen(x, INPUT);
        due("write(8) input", x.write(8, 1), 48);
        due("write(99) input", x.write(99, 1), 48);
        reopen(x, BOTH);
        due("write(-1) both", x.write(NONE, 1), 24);
        due("write(12) both", x.write(12, 1), 0);
        reopen(x, EXTEND);
        due("write(-1) behind the last place", x.write(NONE, 1), 24);
        due("records()", x.records(), 6);
    }

    private static void writeTooLong() {
        RelativeFiles x = file(200, EXTEND, 10, 100);
        due("digits(2)", x.digits(2), 9);
        due("write(99)", x.write(99, 1), 0);
        due("write(101)", x.write(101, 1), 24);
        due("write(100): too long goes ahead of there is one", x.write(100, 1), 24);
        due("write(-1): 101", x.write(NONE, 1), 24);
        due("digits(1)", x.digits(1), 2);
        due("write(9)", x.write(9, Long.MAX_VALUE), 0);
        due("write(11)", x.write(11, 1), 24);
        due("digits(3)", x.digits(3), 1);
        due("write(-1)", x.write(NONE, 1), 0);
        due("count(3)", x.count(3), 101);
        RelativeFiles y = file(65536, EXTEND);
        due("digits(5)", y.digits(5), 9);
        due("write(65536)", y.write(65536, 1), 0);
        due("digits(4)", y.digits(4), 5);
        due("write(10000)", y.write(10000, 1), 24);
        due("write(9999)", y.write(9999, 1), 0);
    }

    private static void writeAndPosition() {
        RelativeFiles x = file(9, BOTH, 3, 6);
        dueNext(x, false, 3);
        due("write(4)", x.write(4, 44), 0);
        due("number() after write", x.number(), 0);
        dueNext(x, false, 4);
        due("write(4)", x.write(4, 45), 22);
        due("number() after 22", x.number(), 0);
        dueNext(x, false, 6);
        due("write(0)", x.write(0, 45), 24);
        due("number() after 24", x.number(), 0);
        dueNext(x, true, 4);
        due("write(1)", x.write(1, 11), 0);
        dueNext(x, true, 3);
        dueNext(x, true, 1);
        due("next(true)", x.next(true), 10);
        due("write(9)", x.write(9, 99), 0);
        due("next(false): the end stays", x.next(false), 46);
    }

    private static void readByNumber() {
        RelativeFiles x = new RelativeFiles(9);
        due("read closed", x.read(1), 42);
        due("open(1)", x.open(OUTPUT), 0);
        due("read output", x.read(1), 47);
        reopen(x, EXTEND);
        due("read extend", x.read(1), 47);
        for (int mode : new int[] {INPUT, BOTH}) {
            RelativeFiles y = file(9, mode, 2, 5, 8);
            due("read(5)", y.read(5), 0);
            due("number()", y.number(), 5);
            due("value()", y.value(), 50);
            dueNext(y, false, 8);
            due("read(5)", y.read(5), 0);
            dueNext(y, true, 2);
            int[] missing = {1, 9, 0, 10, NONE, Integer.MIN_VALUE, Integer.MAX_VALUE};
            for (int number : missing) {
                due("read(5)", y.read(5), 0);
                due("read(" + number + ")", y.read(number), 23);
                due("number()", y.number(), 0);
                due("value()", y.value(), 50);
                due("next(false) lost", y.next(false), 46);
                due("next(true) lost", y.next(true), 46);
            }
            due("read(8)", y.read(8), 0);
            due("next(false)", y.next(false), 10);
            due("read(2)", y.read(2), 0);
            dueNext(y, false, 5);
            due("digits(1)", y.digits(1), 9);
        }
        RelativeFiles z = file(100, INPUT, 50);
        due("digits(1)", z.digits(1), 9);
        due("read(50): the key item is not asked", z.read(50), 0);
    }

    private static void valueOfAll() {
        RelativeFiles x = new RelativeFiles(9);
        due("open(3)", x.open(EXTEND), 5);
        due("value() new", x.value(), 0);
        due("write(2)", x.write(2, 22), 0);
        due("value() written", x.value(), 22);
        due("write(2)", x.write(2, 23), 22);
        due("write(0)", x.write(0, 24), 24);
        due("value() after refusals", x.value(), 22);
        due("write(4)", x.write(4, -44), 0);
        reopen(x, BOTH);
        due("value() over open", x.value(), -44);
        due("next", x.next(false), 0);
        due("value() next", x.value(), 22);
        due("read(4)", x.read(4), 0);
        due("value() read", x.value(), -44);
        due("rewrite(2)", x.rewrite(2, 222), 0);
        due("value() rewritten", x.value(), 222);
        due("rewrite(3)", x.rewrite(3, 5), 23);
        due("rewrite(-1)", x.rewrite(NONE, 5), 43);
        due("start", x.start(0, 4), 0);
        due("remove(4)", x.remove(4), 0);
        due("next at the end", x.next(false), 10);
        due("value() stays", x.value(), 222);
        reopen(x, OUTPUT);
        due("rewrite(2)", x.rewrite(2, 9), 49);
        due("value() over output", x.value(), 222);
    }

    private static void startKinds() {
        RelativeFiles x = file(9, INPUT, 2, 5, 8);
        int low = Integer.MIN_VALUE;
        int high = Integer.MAX_VALUE;
        int[] numbers = {low, NONE, 0, 1, 2, 3, 5, 7, 8, 9, 10, high};
        int[][] want = {
            {0, 0, 0, 0, 2, 0, 5, 0, 8, 0, 0, 0},
            {2, 2, 2, 2, 5, 5, 8, 8, 0, 0, 0, 0},
            {2, 2, 2, 2, 2, 5, 5, 8, 8, 0, 0, 0},
            {0, 0, 0, 0, 0, 2, 2, 5, 5, 8, 8, 8},
            {0, 0, 0, 0, 2, 2, 5, 5, 8, 8, 8, 8},
        };
        for (int op = 0; op < want.length; op++) {
            for (int i = 0; i < numbers.length; i++) {
                String call = "start(" + op + ", " + numbers[i] + ")";
                int place = want[op][i];
                due("read(2)", x.read(2), 0);
                due(call, x.start(op, numbers[i]), place == 0 ? 23 : 0);
                due(call + " number()", x.number(), 0);
                due(call + " next", x.next(i % 2 == 0), place == 0 ? 46 : 0);
                due(call + " next number()", x.number(), place);
            }
        }
    }

    private static void startStatuses() {
        RelativeFiles x = new RelativeFiles(9);
        due("start closed", x.start(0, 1), 42);
        int[] nothing = {-1, 5, Integer.MIN_VALUE, Integer.MAX_VALUE};
        for (int op : nothing) {
            due("start(" + op + ") closed", x.start(op, 1), NONE);
        }
        due("open(1)", x.open(OUTPUT), 0);
        due("start output", x.start(0, 1), 47);
        due("start(5) output", x.start(5, 1), NONE);
        reopen(x, EXTEND);
        due("start extend", x.start(2, 1), 47);
        RelativeFiles y = file(9, BOTH, 2, 5);
        due("read(2)", y.read(2), 0);
        for (int op : nothing) {
            due("start(" + op + ")", y.start(op, 2), NONE);
        }
        due("number() stays", y.number(), 2);
        dueNext(y, false, 5);
        due("next", y.next(false), 10);
        due("start(5)", y.start(5, 2), NONE);
        due("next: the end is not over", y.next(true), 46);
        due("start(0, 5)", y.start(0, 5), 0);
        dueNext(y, true, 5);
        due("start(0, 3)", y.start(0, 3), 23);
        due("next: lost", y.next(false), 46);
    }

    private static void nextBothWays() {
        RelativeFiles x = new RelativeFiles(9);
        due("next closed", x.next(false), 42);
        due("open(1)", x.open(OUTPUT), 0);
        due("next output", x.next(true), 47);
        reopen(x, EXTEND);
        due("next extend", x.next(false), 47);
        for (int mode : new int[] {INPUT, BOTH}) {
            RelativeFiles y = file(9, mode, 2, 5, 8);
            dueNext(y, false, 2);
            dueNext(y, false, 5);
            due("value()", y.value(), 50);
            dueNext(y, false, 8);
            dueNext(y, true, 5);
            dueNext(y, true, 2);
            due("next back at the end", y.next(true), 10);
            due("number()", y.number(), 0);
            due("next", y.next(false), 46);
            due("next back", y.next(true), 46);
            reopen(y, mode);
            due("next back ahead of all", y.next(true), 10);
            due("next", y.next(false), 46);
            due("start(2, 8)", y.start(2, 8), 0);
            dueNext(y, false, 8);
            due("next at the end", y.next(false), 10);
            due("next back", y.next(true), 46);
            due("read(7)", y.read(7), 23);
            due("next after a lost read", y.next(true), 46);
        }
        RelativeFiles empty = file(9, BOTH);
        due("next without records", empty.next(false), 10);
        due("write(3)", empty.write(3, 3), 0);
        due("next: the end stays", empty.next(false), 46);
    }

    private static void nextAtAPlace() {
        for (int i = 0; i < 2; i++) {
            boolean back = i == 1;
            RelativeFiles x = file(9, BOTH, 2, 5, 8);
            due("start(0, 5)", x.start(0, 5), 0);
            due("remove(5)", x.remove(5), 0);
            dueNext(x, back, back ? 2 : 8);
            due("write(5)", x.write(5, 5), 0);
            due("start(0, 5)", x.start(0, 5), 0);
            due("remove(5)", x.remove(5), 0);
            due("write(5)", x.write(5, 55), 0);
            dueNext(x, back, 5);
            due("value()", x.value(), 55);
            dueNext(x, back, back ? 2 : 8);
            due("start(0)", x.start(0, back ? 2 : 8), 0);
            due("remove()", x.remove(back ? 2 : 8), 0);
            due("next", x.next(back), 10);
        }
        RelativeFiles y = file(9, BOTH, 2, 5, 8);
        due("read(5)", y.read(5), 0);
        due("remove(-1)", y.remove(NONE), 0);
        due("write(5)", y.write(5, 5), 0);
        dueNext(y, false, 8);
    }

    private static void nextTooLong() {
        RelativeFiles x = file(200, INPUT, 9, 10, 99, 100);
        due("digits(1)", x.digits(1), 9);
        dueNext(x, false, 9);
        due("next: 10", x.next(false), 14);
        due("number()", x.number(), 0);
        due("value()", x.value(), 90);
        due("next", x.next(true), 46);
        due("digits(2)", x.digits(2), 1);
        due("next", x.next(false), 46);
        due("start(0, 100)", x.start(0, 100), 0);
        due("next back: 100", x.next(true), 14);
        due("start(3, 100)", x.start(3, 100), 0);
        dueNext(x, true, 99);
        due("next: 100", x.next(false), 14);
        due("start(0, 100)", x.start(0, 100), 0);
        due("digits(3)", x.digits(3), 2);
        dueNext(x, false, 100);
        due("next", x.next(false), 10);
    }

    private static void rewriting() {
        RelativeFiles x = new RelativeFiles(9);
        due("rewrite closed", x.rewrite(1, 1), 42);
        due("rewrite(-1) closed", x.rewrite(NONE, 1), 42);
        for (int mode : new int[] {INPUT, OUTPUT, EXTEND}) {
            RelativeFiles y = file(9, mode, 2);
            due("rewrite(2) mode " + mode, y.rewrite(2, 1), 49);
            due("rewrite(-1) mode " + mode, y.rewrite(NONE, 1), 49);
            due("value()", y.value(), 20);
        }
        RelativeFiles z = file(9, BOTH, 2, 5);
        due("rewrite(-1)", z.rewrite(NONE, 1), 43);
        dueNext(z, false, 2);
        due("rewrite(-1)", z.rewrite(NONE, 21), 0);
        due("cell(2)", z.cell(2), 21);
        due("number()", z.number(), 0);
        due("rewrite(-1) again", z.rewrite(NONE, 22), 43);
        dueNext(z, false, 5);
        due("rewrite(2)", z.rewrite(2, 23), 0);
        due("number()", z.number(), 0);
        due("cell(2)", z.cell(2), 23);
        due("cell(5)", z.cell(5), 50);
        int[] missing = {0, 1, 10, -2, Integer.MIN_VALUE, Integer.MAX_VALUE};
        for (int number : missing) {
            due("read(5)", z.read(5), 0);
            due("rewrite(" + number + ")", z.rewrite(number, 9), 23);
            due("number()", z.number(), 0);
        }
        due("next: the position stays", z.next(true), 0);
        due("value()", z.value(), 23);
        due("digits(1)", z.digits(1), 9);
        due("number() after digits", z.number(), 2);
        due("records()", z.records(), 2);
    }

    private static void removing() {
        RelativeFiles x = new RelativeFiles(9);
        due("remove closed", x.remove(1), 42);
        for (int mode : new int[] {INPUT, OUTPUT, EXTEND}) {
            RelativeFiles y = file(9, mode, 2);
            due("remove(2) mode " + mode, y.remove(2), 49);
            due("remove(-1) mode " + mode, y.remove(NONE), 49);
        }
        RelativeFiles z = file(9, BOTH, 2, 5, 8);
        due("remove(-1)", z.remove(NONE), 43);
        due("read(5)", z.read(5), 0);
        due("remove(-1)", z.remove(NONE), 0);
        due("records()", z.records(), 2);
        due("cell(5)", z.cell(5), 0);
        due("number()", z.number(), 0);
        due("remove(-1) again", z.remove(NONE), 43);
        due("remove(5)", z.remove(5), 23);
        due("next: the position stays", z.next(true), 0);
        due("number()", z.number(), 2);
        due("remove(8)", z.remove(8), 0);
        due("number()", z.number(), 0);
        due("cell(2)", z.cell(2), 20);
        int[] missing = {0, 1, 10, -2, Integer.MIN_VALUE, Integer.MAX_VALUE};
        for (int number : missing) {
            due("remove(" + number + ")", z.remove(number), 23);
        }
        due("remove(2)", z.remove(2), 0);
        due("records()", z.records(), 0);
        due("write(2)", z.write(2, 2), 0);
        due("value() is not of the removed", z.value(), 2);
    }

    private static void numberOfLast() {
        RelativeFiles x = file(9, INPUT, 2, 5);
        due("number() new", x.number(), 0);
        dueNext(x, false, 2);
        due("write refused", x.write(3, 3), 48);
        due("rewrite refused", x.rewrite(2, 3), 49);
        due("remove refused", x.remove(2), 49);
        due("open refused", x.open(OUTPUT), 41);
        due("open none", x.open(7), NONE);
        due("start none", x.start(7, 2), NONE);
        due("asked", x.value() + x.cell(2) + x.records() + x.count(0) + x.digits(10), 20 + 20 + 2 + 9 - 1);
        due("number() stays", x.number(), 2);
        due("start", x.start(0, 5), 0);
        due("number() after start", x.number(), 0);
        due("read(5)", x.read(5), 0);
        due("number() read", x.number(), 5);
        due("start", x.start(0, 6), 23);
        due("number() after 23", x.number(), 0);
        due("next", x.next(false), 46);
        due("number() after 46", x.number(), 0);
    }

    private static void cells() {
        RelativeFiles x = new RelativeFiles(3);
        due("cell(1) not there", x.cell(1), 0);
        due("cell(3) not there", x.cell(3), 0);
        int[] outside = {0, 4, -1, Integer.MIN_VALUE, Integer.MAX_VALUE};
        for (int i : outside) {
            dueNoPlace(x, i);
        }
        RelativeFiles y = file(3, INPUT, 1, 3);
        due("cell(1)", y.cell(1), 10);
        due("cell(2)", y.cell(2), 0);
        due("cell(3)", y.cell(3), 30);
        due("open(4)", y.open(CLOSE), 0);
        due("cell(3) closed", y.cell(3), 30);
        dueNoPlace(new RelativeFiles(0), 0);
        dueNoPlace(new RelativeFiles(0), 1);
        RelativeFiles z = new RelativeFiles(Integer.MAX_VALUE);
        due("cell(65536)", z.cell(65536), 0);
        dueNoPlace(z, 65537);
    }

    private static void howMany() {
        RelativeFiles x = new RelativeFiles(9);
        due("records() new", x.records(), 0);
        due("open(1)", x.open(OUTPUT), 0);
        due("write(9)", x.write(9, 0), 0);
        due("write(9)", x.write(9, 1), 22);
        due("write(1)", x.write(1, 1), 0);
        due("records()", x.records(), 2);
        reopen(x, BOTH);
        due("rewrite(9)", x.rewrite(9, 4), 0);
        due("records() rewritten", x.records(), 2);
        due("remove(9)", x.remove(9), 0);
        due("records() removed", x.records(), 1);
        due("open(4)", x.open(CLOSE), 0);
        due("records() closed", x.records(), 1);
    }

    private static void keyDigits() {
        RelativeFiles x = new RelativeFiles(9);
        int[] wrongOnes = {0, 10, -1, Integer.MIN_VALUE, Integer.MAX_VALUE};
        int before = 9;
        for (int n = 1; n <= 9; n++) {
            due("digits(" + n + ")", x.digits(n), before);
            for (int none : wrongOnes) {
                due("digits(" + none + ")", x.digits(none), NONE);
            }
            before = n;
        }
        due("open(3)", x.open(EXTEND), 5);
        due("digits(2)", x.digits(2), 9);
        reopen(x, OUTPUT);
        due("digits(9): open() leaves it", x.digits(9), 2);
    }

    private static void counts() {
        RelativeFiles x = new RelativeFiles(9);
        for (int what : new int[] {-1, 5, Integer.MIN_VALUE, Integer.MAX_VALUE}) {
            due("count(" + what + ")", x.count(what), NONE);
        }
        due("count(0)", x.count(0), 9);
        due("count(1)", x.count(1), 0);
        due("count(2)", x.count(2), NONE);
        due("count(3)", x.count(3), 0);
        due("count(4)", x.count(4), 0);
        for (int mode = INPUT; mode <= EXTEND; mode++) {
            RelativeFiles y = file(9, mode, 6, 2, 4);
            due("count(1)", y.count(1), 1);
            due("count(2)", y.count(2), mode);
            due("count(3)", y.count(3), mode == OUTPUT ? 0 : 6);
            due("count(4)", y.count(4), mode == OUTPUT ? 0 : 2);
            due("open(4)", y.open(CLOSE), 0);
            due("count(1) closed", y.count(1), 1);
            due("count(2) closed", y.count(2), NONE);
        }
        RelativeFiles z = file(9, BOTH, 2, 4, 6);
        due("remove(6)", z.remove(6), 0);
        due("remove(2)", z.remove(2), 0);
        due("count(3)", z.count(3), 4);
        due("count(4)", z.count(4), 4);
    }

    /** The most records that 512 calls can write; what later calls answer is free, but the machine throws in none. */
    private static void asManyCallsAsThereAre() {
        RelativeFiles x = new RelativeFiles(65536);
        due("open(3)", x.open(EXTEND), 5);
        for (int i = 1; i <= 510; i++) {
            due("write " + i, x.write(65537 - i, i), 0);
        }
        due("records()", x.records(), 510);
        for (int i = 511; i <= 2000; i++) {
            x.write(65537 - i, i);
        }
        x.write(NONE, 1);
        x.open(CLOSE);
        x.open(BOTH);
        x.start(2, 1);
        x.next(false);
        x.rewrite(NONE, 1);
        x.remove(65536);
    }

    public static void main(String[] args) {
        promise = 1;
        newObject();
        promise = 2;
        openAndClose();
        openSetsPosition();
        promise = 3;
        writeStatuses();
        writeTooLong();
        writeAndPosition();
        asManyCallsAsThereAre();
        promise = 4;
        readByNumber();
        promise = 5;
        valueOfAll();
        promise = 6;
        startKinds();
        startStatuses();
        promise = 7;
        nextBothWays();
        nextAtAPlace();
        nextTooLong();
        promise = 8;
        rewriting();
        promise = 9;
        removing();
        promise = 10;
        numberOfLast();
        promise = 11;
        cells();
        promise = 12;
        howMany();
        promise = 13;
        keyDigits();
        promise = 14;
        counts();
        System.out.println(wrong == 0 ? "all answers are as due" : wrong + " answers are not as due");
        if (wrong != 0) {
            System.exit(1);
        }
    }
}
