import java.util.Random;

/**
 * Mixed runs of calls against the model, each as long as the document promises and no longer. The
 * seeds are fixed, so that every run is the same.
 */
public final class ModelTest {
    private static final int RUNS = 8000;
    private static final int CALLS = 512;
    private static final int[] SIZES = {0, 1, 2, 3, 7, 12, 30, 120, 700, 1005, 65536, 70000, -5};
    private static final int[] EDGES = {
        Integer.MIN_VALUE, -2, -1, 0, 1, 9, 10, 99, 100, 999, 1000, 9999, 10000, 65535, 65536, 65537, Integer.MAX_VALUE
    };
    // As often as a kind stands here, so often is it called; OTHER closes an open file and opens a closed one.
    private static final String KINDS = "OPEN OPEN OTHER OTHER WRITE WRITE WRITE WRITE WRITE WRITE READ READ READ "
        + "START START START NEXT NEXT NEXT NEXT NEXT NEXT NEXT REWRITE REWRITE REWRITE REMOVE REMOVE DIGITS "
        + "VALUE VALUE NUMBER NUMBER CELL CELL RECORDS COUNT COUNT";
    private static final String[] CHOICE = KINDS.split(" ");

    private static int wrong = 0;

    private static int number(Random chance, Model model) {
        int most = model.count(0);
        switch (chance.nextInt(8)) {
            case 0:
                return EDGES[chance.nextInt(EDGES.length)];
            case 1:
                return -1;
            case 2:
                return Math.max(0, model.nearPosition() + chance.nextInt(3) - 1);
            case 3:
                return chance.nextInt(most + 3) - 1;
            default:
                return 1 + chance.nextInt(Math.max(1, Math.min(most, 15)));
        }
    }

    // Output empties the file and input refuses every change, so both are rarer than the other modes.
    private static int otherMode(Random chance, Model model) {
        if (model.count(2) != -1) {
            return 4;
        }
        return chance.nextInt(3) == 0 ? chance.nextInt(4) : 2 + chance.nextInt(2);
    }

    private static Step step(Random chance, Model model) {
        String choice = CHOICE[chance.nextInt(CHOICE.length)];
        if (choice.equals("OTHER")) {
            return Step.of(Step.Kind.OPEN, otherMode(chance, model));
        }
        Step.Kind kind = Step.Kind.valueOf(choice);
        int small = chance.nextInt(7) - 1;
        switch (kind) {
            case OPEN: case COUNT:
                return Step.of(kind, small);
            case START:
                return new Step(kind, small, number(chance, model));
            case NEXT:
                return Step.next(chance.nextBoolean());
            case DIGITS:
                return Step.of(kind, chance.nextInt(3) == 0 ? chance.nextInt(12) - 1 : 9);
            case WRITE: case REWRITE:
                return new Step(kind, number(chance, model),
                    chance.nextInt(3) == 0 ? chance.nextLong() : chance.nextInt(100));
            default:
                return Step.of(kind, number(chance, model));
        }
    }

    private static void run(int seed) {
        Random chance = new Random(seed);
        int most = SIZES[seed % SIZES.length];
        RelativeFiles x = new RelativeFiles(most);
        Model model = new Model(most);
        for (int i = 1; i <= CALLS && wrong == 0; i++) {
            Step step = step(chance, model);
            long got = step.on(x);
            long want = step.on(model);
            if (got != want) {
                wrong++;
                System.out.println("seed " + seed + ", call " + i + ": " + step + " answered " + got + ", due is "
                    + want);
            }
        }
    }

    public static void main(String[] args) {
        for (int seed = 0; seed < RUNS && wrong == 0; seed++) {
            run(seed);
        }
        System.out.println(wrong == 0 ? "all answers are as due" : "an answer is not as due");
        if (wrong != 0) {
            System.exit(1);
        }
    }
}
