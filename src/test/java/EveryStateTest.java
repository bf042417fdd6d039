import java.util.ArrayDeque;
import java.util.ArrayList;
import java.util.HashSet;
import java.util.List;
import java.util.Set;

/**
 * Every state that a small file can come to, and in each of them every call: two places, once the
 * least ones and once those on both sides of a key item's edge. A state is reached by its shortest run.
 */
public final class EveryStateTest {
    private static final int LOW = Integer.MIN_VALUE;
    private static final int HIGH = Integer.MAX_VALUE;

    private static int wrong = 0;
    private static int states = 0;

    private final int most;
    // States with a record in a lesser place are looked at, but not gone on from: they are too many.
    private final int least;
    private final List<Step> steps = new ArrayList<>();
    private final List<Step> questions = new ArrayList<>();
    private final Set<String> seen = new HashSet<>();
    private final ArrayDeque<List<Step>> waiting = new ArrayDeque<>();

    private EveryStateTest(int most, int least) {
        this.most = most;
        this.least = least;
        for (int kind = -1; kind <= 5; kind++) {
            steps.add(Step.of(Step.Kind.OPEN, kind));
            questions.add(Step.of(Step.Kind.COUNT, kind));
            for (int number : numbers()) {
                steps.add(new Step(Step.Kind.START, kind, number));
            }
        }
        for (int number : numbers()) {
            steps.add(new Step(Step.Kind.WRITE, number, 1));
            steps.add(Step.of(Step.Kind.READ, number));
            steps.add(new Step(Step.Kind.REWRITE, number, 2));
            steps.add(Step.of(Step.Kind.REMOVE, number));
            questions.add(Step.of(Step.Kind.CELL, number));
        }
        for (int n : new int[] {0, 1, 2, 10}) {
            steps.add(Step.of(Step.Kind.DIGITS, n));
        }
        steps.add(Step.next(false));
        steps.add(Step.next(true));
        questions.add(Step.of(Step.Kind.VALUE));
        questions.add(Step.of(Step.Kind.NUMBER));
        questions.add(Step.of(Step.Kind.RECORDS));
    }

    private int[] numbers() {
        return new int[] {LOW, -2, RelativeFiles.NONE, 0, least, most, most + 1, HIGH};
    }

    private static void due(List<Step> run, Step step, long got, long want) {
        if (got != want && wrong++ < 20) {
            System.out.println("after " + run + ": " + step + " answered " + got + ", due is " + want);
        }
    }

    private void prove(List<Step> run, Step step) {
        RelativeFiles x = new RelativeFiles(most);
        Model model = new Model(most);
        for (Step made : run) {
            made.on(x);
            made.on(model);
        }
        due(run, step, step.on(x), step.on(model));
        List<Step> longer = new ArrayList<>(run);
        longer.add(step);
        for (Step question : questions) {
            due(longer, question, question.on(x), question.on(model));
        }
        boolean isWalked = model.records() == 0 || model.count(4) >= least;
        if (isWalked && seen.add(model.state())) {
            waiting.add(longer);
        }
    }

    private void walk() {
        waiting.add(List.of());
        seen.add(new Model(most).state());
        while (!waiting.isEmpty() && wrong == 0) {
            List<Step> run = waiting.remove();
            for (Step step : steps) {
                prove(run, step);
            }
        }
        states += seen.size();
    }

    public static void main(String[] args) {
        new EveryStateTest(2, 1).walk();
        new EveryStateTest(10, 9).walk();
        System.out.println(wrong == 0 ? "all answers are as due in " + states + " states"
            : wrong + " answers are not as due");
        if (wrong != 0) {
            System.exit(1);
        }
    }
}
