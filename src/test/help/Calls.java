/**
 * A run of calls on one object, each with the answer that is due; a wrong answer is printed with the
 * sentence of the document that is being tested.
 */
final class Calls {
    static final int NONE = RelativeFiles.NONE;
    static final int INPUT = 0;
    static final int OUTPUT = 1;
    static final int BOTH = 2;
    static final int EXTEND = 3;
    static final int CLOSE = 4;
    static final int LOW = Integer.MIN_VALUE;
    static final int HIGH = Integer.MAX_VALUE;
    static final boolean ON = false;
    static final boolean BACK = true;

    // The document leaves free what an object answers after so many calls.
    private static final int MOST_CALLS = 512;

    private static String told = "";
    private static int sentences = 0;
    private static int wrong = 0;

    private final RelativeFiles file;
    private int calls = 0;

    Calls(int most) {
        file = new RelativeFiles(most);
    }

    /** A file that has the record 10 * place in each of the places, just opened in the mode. */
    static Calls filled(int most, int mode, int... places) {
        Calls run = new Calls(most).open(OUTPUT, 0);
        for (int place : places) {
            run.write(place, 10L * place, 0);
        }
        return run.reopen(mode);
    }

    static void sentence(String where, String words, Runnable test) {
        told = where + " \"" + words + "\"";
        sentences++;
        test.run();
    }

    static void end() {
        System.out.println(wrong == 0 ? "all " + sentences + " sentences hold" : wrong + " answers are not as due");
        if (wrong != 0) {
            System.exit(1);
        }
    }

    private static void complain(String what) {
        wrong++;
        System.out.println(told + ": " + what);
    }

    private Calls due(String call, long got, long want) {
        calls++;
        if (calls > MOST_CALLS) {
            complain("the test itself makes more calls than are promised");
        }
        if (got != want) {
            complain("call " + calls + ", " + call + ", answered " + got + ", due is " + want);
        }
        return this;
    }

    Calls open(int mode, int want) {
        return due("open(" + mode + ")", file.open(mode), want);
    }

    Calls reopen(int mode) {
        return open(CLOSE, 0).open(mode, 0);
    }

    Calls write(int number, long v, int want) {
        return due("write(" + number + ", " + v + ")", file.write(number, v), want);
    }

    Calls read(int number, int want) {
        return due("read(" + number + ")", file.read(number), want);
    }

    Calls value(long want) {
        return due("value()", file.value(), want);
    }

    Calls start(int op, int number, int want) {
        return due("start(" + op + ", " + number + ")", file.start(op, number), want);
    }

    Calls next(boolean back, int want) {
        return due("next(" + back + ")", file.next(back), want);
    }

    /** The next record is that of the place. */
    Calls reaches(boolean back, int place) {
        return next(back, 0).number(place);
    }

    Calls rewrite(int number, long v, int want) {
        return due("rewrite(" + number + ", " + v + ")", file.rewrite(number, v), want);
    }

    Calls remove(int number, int want) {
        return due("remove(" + number + ")", file.remove(number), want);
    }

    Calls number(int want) {
        return due("number()", file.number(), want);
    }

    Calls cell(int i, long want) {
        return due("cell(" + i + ")", file.cell(i), want);
    }

    /** The call throws what the document names, and throws it by its own statement. */
    Calls noCell(int i) {
        String thrower = "nothing";
        try {
            file.cell(i);
        } catch (ArrayIndexOutOfBoundsException e) {
            thrower = e.getStackTrace()[0].getMethodName();
        }
        if (!thrower.equals("cell")) {
            complain("cell(" + i + ") is due to throw in cell itself, thrown in: " + thrower);
        }
        calls++;
        return this;
    }

    Calls records(int want) {
        return due("records()", file.records(), want);
    }

    Calls digits(int n, int want) {
        return due("digits(" + n + ")", file.digits(n), want);
    }

    Calls count(int what, int want) {
        return due("count(" + what + ")", file.count(what), want);
    }
}
