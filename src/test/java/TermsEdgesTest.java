import java.util.List;
import java.util.function.Consumer;
import java.util.function.Supplier;

/** A test for each sentence of "What it is" and of "Terms" that names a boundary case. */
public final class TermsEdgesTest {
    private static final int NONE = Calls.NONE;
    private static final int INPUT = Calls.INPUT;
    private static final int OUTPUT = Calls.OUTPUT;
    private static final int BOTH = Calls.BOTH;
    private static final int EXTEND = Calls.EXTEND;
    private static final int CLOSE = Calls.CLOSE;
    private static final int LOW = Calls.LOW;
    private static final int HIGH = Calls.HIGH;
    private static final boolean ON = Calls.ON;
    private static final boolean BACK = Calls.BACK;
    private static final int[] NO_KINDS = {LOW, -2, -1, 5, 6, HIGH};

    /**
     * A file of 9 places with 20, 50, 80 in the places 2, 5, 8 (or a new one) in some state: its mode, the
     * record read last, and what next() reaches in either direction: a place, or a status as -status.
     */
    private record State(Supplier<Calls> made, int mode, int last, int on, int back) {
    }

    private static Calls records(int mode) {
        return Calls.filled(9, mode, 2, 5, 8).digits(3, 9);
    }

    private static Calls atTheEnd(int mode) {
        return records(mode).start(0, 8, 0).reaches(ON, 8).next(ON, 10);
    }

    private static List<State> readingIn(int mode) {
        return List.of(
            new State(() -> records(mode), mode, 0, 2, -10),
            new State(() -> records(mode).read(5, 0), mode, 5, 8, 2),
            new State(() -> records(mode).reaches(ON, 2), mode, 2, 5, -10),
            new State(() -> records(mode).start(0, 5, 0), mode, 0, 5, 5),
            new State(() -> records(mode).read(3, 23), mode, 0, -46, -46),
            new State(() -> atTheEnd(mode), mode, 0, -46, -46));
    }

    private static List<State> writing() {
        return List.of(
            new State(() -> records(EXTEND), EXTEND, 0, -47, -47),
            new State(() -> new Calls(9).open(OUTPUT, 0).write(2, 20, 0).write(5, 50, 0).write(8, 80, 0).digits(3, 9),
                OUTPUT, 0, -47, -47));
    }

    private static List<State> closed() {
        return List.of(new State(() -> records(BOTH).read(5, 0).open(CLOSE, 0), NONE, 0, -42, -42));
    }

    private static void proveNext(Calls run, boolean back, int due) {
        if (due < 0) {
            run.next(back, -due);
        } else {
            run.reaches(back, due).value(10L * due);
        }
    }

    private static Calls after(State state, Consumer<Calls> refused) {
        Calls run = state.made().get();
        refused.accept(run);
        return run;
    }

    /** Whatever can be seen of the file in this state is seen after the refused call too. */
    private static void proveUnchanged(State state, Consumer<Calls> refused) {
        Calls asked = after(state, refused).number(state.last()).records(3).digits(9, 3);
        asked.count(0, 9).count(1, 1).count(2, state.mode()).count(3, 8).count(4, 2);
        for (int i = 1; i <= 9; i++) {
            asked.cell(i, i % 3 == 2 ? 10L * i : 0);
        }
        proveNext(after(state, refused), ON, state.on());
        proveNext(after(state, refused), BACK, state.back());
        if (state.mode() == BOTH) {
            after(state, refused).rewrite(NONE, 7, state.last() == 0 ? 43 : 0);
            after(state, refused).remove(NONE, state.last() == 0 ? 43 : 0);
        }
        if (state.mode() == OUTPUT || state.mode() == EXTEND) {
            after(state, refused).write(NONE, 99, 0).cell(9, 99);
        }
    }

    private static void proveAllUnchanged(List<State> states, List<Consumer<Calls>> refused) {
        for (State state : states) {
            for (Consumer<Calls> call : refused) {
                proveUnchanged(state, call);
            }
        }
    }

    private static void limitOfCalls() {
        Calls written = new Calls(65536).open(EXTEND, 5);
        for (int i = 1; i <= 509; i++) {
            written.write(65537 - i, i, 0);
        }
        written.records(509).cell(65536 - 508, 509);
        Calls inOrder = new Calls(65536).open(OUTPUT, 0);
        for (int i = 1; i <= 510; i++) {
            inOrder.write(NONE, i, 0);
        }
        inOrder.count(3, 510);
    }

    private static void lastWriteOfAll() {
        Calls run = new Calls(65536).open(OUTPUT, 0);
        for (int i = 1; i <= 511; i++) {
            run.write(NONE, i, 0);
        }
    }

    private static void leastAndGreatestPlace() {
        new Calls(4).open(EXTEND, 5).write(0, 1, 24).write(5, 1, 24).write(1, 11, 0).write(4, 44, 0).records(2)
            .reopen(INPUT).read(0, 23).read(5, 23).read(1, 0).value(11).read(4, 0).value(44);
        new Calls(0).open(EXTEND, 5).write(0, 1, 24).write(1, 1, 24).records(0);
    }

    private static void recordsOf64Bits() {
        long[] wide = {Long.MIN_VALUE, Long.MAX_VALUE, -1L, 1L << 32, -(1L << 31) - 1};
        Calls run = new Calls(9).open(OUTPUT, 0);
        for (int i = 0; i < wide.length; i++) {
            run.write(NONE, wide[i], 0).value(wide[i]).cell(i + 1, wide[i]);
        }
        run.reopen(BOTH);
        for (int i = 0; i < wide.length; i++) {
            run.reaches(ON, i + 1).value(wide[i]).rewrite(i + 1, ~wide[i], 0).value(~wide[i]).cell(i + 1, ~wide[i]);
        }
    }

    private static void aRecordOfZeroIsOne() {
        new Calls(3).open(OUTPUT, 0).write(2, 0, 0).records(1).count(3, 2).count(4, 2).write(2, 5, 22)
            .reopen(BOTH).read(2, 0).value(0).start(0, 2, 0).reaches(ON, 2).rewrite(2, 0, 0).remove(2, 0).records(0)
            .remove(2, 23);
    }

    private static void notThereAtFirst() {
        new Calls(3).count(1, 0).open(INPUT, 35).open(BOTH, 35).count(1, 0).records(0).open(EXTEND, 5).count(1, 1);
    }

    private static void closedAtFirst() {
        new Calls(3).count(2, NONE).open(CLOSE, 42).write(1, 1, 42).read(1, 42).start(2, 1, 42).next(ON, 42)
            .next(BACK, 42).rewrite(1, 1, 42).rewrite(NONE, 1, 42).remove(1, 42).remove(NONE, 42).count(2, NONE);
    }

    private static void fourModes() {
        Calls.filled(3, INPUT, 2).count(2, 0).read(2, 0).write(1, 1, 48).rewrite(2, 1, 49);
        Calls.filled(3, OUTPUT, 2).count(2, 1).read(2, 47).write(1, 1, 0).rewrite(1, 1, 49);
        Calls.filled(3, BOTH, 2).count(2, 2).read(2, 0).write(1, 1, 0).rewrite(1, 1, 0);
        Calls.filled(3, EXTEND, 2).count(2, 3).read(2, 47).write(1, 1, 0).rewrite(2, 1, 49);
    }

    private static void fourPositions() {
        records(INPUT).reaches(ON, 2);
        records(INPUT).next(BACK, 10);
        records(INPUT).read(5, 0).reaches(ON, 8);
        records(INPUT).read(5, 0).reaches(BACK, 2);
        records(INPUT).start(0, 5, 0).reaches(ON, 5);
        records(INPUT).start(0, 5, 0).reaches(BACK, 5);
        records(INPUT).start(0, 4, 23).next(ON, 46);
        records(INPUT).start(0, 4, 23).next(BACK, 46);
    }

    private static void noneReadAtFirst() {
        new Calls(3).number(0).open(EXTEND, 5).number(0).write(1, 1, 0).number(0).reopen(BOTH).number(0)
            .rewrite(NONE, 7, 43).remove(NONE, 43).cell(1, 1);
    }

    private static void nineDigitsAtFirst() {
        new Calls(65536).digits(9, 9);
        new Calls(65536).open(EXTEND, 5).write(65536, 1, 0).reopen(INPUT).reaches(ON, 65536);
    }

    private static void tooManyDigits() {
        int[] greatest = {9, 99, 999, 9999};
        for (int n = 1; n <= greatest.length; n++) {
            int holds = greatest[n - 1];
            Calls run = new Calls(65536).digits(n, 9).open(EXTEND, 5).write(holds + 1, 1, 24).write(holds, 1, 0)
                .write(NONE, 1, 24).digits(9, n).write(holds + 1, 1, 0).reopen(INPUT).digits(n, 9);
            run.reaches(ON, holds).next(ON, 14);
        }
        for (int n = 5; n <= 9; n++) {
            new Calls(65536).digits(n, 9).open(EXTEND, 5).write(65536, 1, 0).reopen(INPUT).reaches(ON, 65536);
        }
    }

    private static void noneAheadOf41() {
        for (int mode = INPUT; mode <= EXTEND; mode++) {
            for (int kind : NO_KINDS) {
                Calls.filled(9, mode).open(kind, NONE).count(2, mode);
            }
        }
    }

    private static void noneAheadOf42() {
        for (int kind : NO_KINDS) {
            new Calls(9).open(kind, NONE).start(kind, 1, NONE).count(1, 0).count(2, NONE);
        }
    }

    private static void noneAheadOf47() {
        for (int kind : NO_KINDS) {
            Calls.filled(9, OUTPUT).start(kind, 1, NONE);
            Calls.filled(9, EXTEND, 1).start(kind, 1, NONE);
        }
    }

    private static void noneAheadOf23() {
        for (int kind : NO_KINDS) {
            Calls.filled(9, INPUT).start(kind, 1, NONE);
            Calls.filled(9, BOTH, 2).start(kind, 0, NONE).start(kind, 2, NONE);
        }
    }

    private static void refusedWith41() {
        List<Consumer<Calls>> refused = List.of(x -> x.open(INPUT, 41), x -> x.open(OUTPUT, 41),
            x -> x.open(BOTH, 41), x -> x.open(EXTEND, 41));
        proveAllUnchanged(readingIn(INPUT), refused);
        proveAllUnchanged(readingIn(BOTH), refused);
        proveAllUnchanged(writing(), refused);
    }

    private static void refusedWith42() {
        proveAllUnchanged(closed(), List.of(x -> x.open(CLOSE, 42), x -> x.write(3, 1, 42), x -> x.write(NONE, 1, 42),
            x -> x.read(2, 42), x -> x.start(0, 2, 42), x -> x.next(ON, 42), x -> x.rewrite(2, 7, 42),
            x -> x.rewrite(NONE, 7, 42), x -> x.remove(2, 42), x -> x.remove(NONE, 42)));
        new Calls(9).open(CLOSE, 42).write(1, 1, 42).remove(1, 42).count(1, 0).records(0).value(0).open(INPUT, 35);
        records(BOTH).open(CLOSE, 0).write(3, 7, 42).read(2, 42).rewrite(2, 7, 42).value(80);
    }

    private static void refusedWith47() {
        proveAllUnchanged(writing(), List.of(x -> x.read(2, 47), x -> x.read(3, 47), x -> x.start(0, 2, 47),
            x -> x.start(0, 3, 47), x -> x.next(ON, 47), x -> x.next(BACK, 47)));
        records(EXTEND).read(2, 47).next(ON, 47).value(80);
    }

    private static void refusedWith48() {
        proveAllUnchanged(readingIn(INPUT), List.of(x -> x.write(3, 1, 48), x -> x.write(2, 1, 48),
            x -> x.write(NONE, 1, 48), x -> x.write(0, 1, 48)));
        records(INPUT).read(5, 0).write(3, 1, 48).value(50);
    }

    private static void refusedWith49() {
        List<Consumer<Calls>> refused = List.of(x -> x.rewrite(2, 7, 49), x -> x.rewrite(NONE, 7, 49),
            x -> x.rewrite(3, 7, 49), x -> x.remove(2, 49), x -> x.remove(NONE, 49), x -> x.remove(3, 49));
        proveAllUnchanged(readingIn(INPUT), refused);
        proveAllUnchanged(writing(), refused);
        records(INPUT).read(5, 0).rewrite(2, 7, 49).rewrite(NONE, 7, 49).value(50);
    }

    private static void refusedWithNone() {
        List<Consumer<Calls>> refused = List.of(x -> x.open(-1, NONE), x -> x.open(5, NONE),
            x -> x.start(-1, 2, NONE), x -> x.start(5, 2, NONE), x -> x.digits(0, NONE), x -> x.digits(10, NONE));
        proveAllUnchanged(readingIn(INPUT), refused);
        proveAllUnchanged(readingIn(BOTH), refused);
        proveAllUnchanged(writing(), refused);
        proveAllUnchanged(closed(), refused);
    }

    private static Calls readFive() {
        return records(BOTH).read(5, 0).number(5);
    }

    private static void proveForgotten(Calls run) {
        run.number(0).rewrite(NONE, 7, 43).remove(NONE, 43).cell(5, 50);
    }

    private static void forgottenBy0() {
        proveForgotten(readFive().write(3, 1, 0));
        proveForgotten(readFive().start(0, 5, 0));
        proveForgotten(readFive().rewrite(2, 7, 0));
        proveForgotten(readFive().remove(2, 0));
        readFive().open(CLOSE, 0).number(0).open(BOTH, 0).number(0).rewrite(NONE, 7, 43);
        readFive().rewrite(NONE, 7, 0).number(0).rewrite(NONE, 8, 43).cell(5, 7);
        readFive().rewrite(5, 7, 0).number(0).remove(NONE, 43).cell(5, 7);
        readFive().remove(NONE, 0).number(0).remove(NONE, 43);
    }

    private static void forgottenBy10() {
        proveForgotten(readFive().read(8, 0).next(ON, 10));
        proveForgotten(readFive().read(2, 0).next(BACK, 10));
    }

    private static void forgottenBy14() {
        Calls.filled(99, BOTH, 9, 10).digits(1, 9).reaches(ON, 9).next(ON, 14).number(0).rewrite(NONE, 7, 43);
        Calls.filled(99, BOTH, 10, 11).digits(1, 9).read(11, 0).next(BACK, 14).number(0).remove(NONE, 43);
    }

    private static void forgottenBy22() {
        proveForgotten(readFive().write(5, 1, 22));
        proveForgotten(readFive().write(8, 1, 22));
    }

    private static void forgottenBy23() {
        proveForgotten(readFive().read(4, 23));
        proveForgotten(readFive().read(0, 23));
        proveForgotten(readFive().start(0, 4, 23));
        proveForgotten(readFive().rewrite(4, 7, 23));
        proveForgotten(readFive().remove(4, 23));
        proveForgotten(readFive().remove(10, 23));
    }

    private static void forgottenBy24() {
        proveForgotten(readFive().write(0, 1, 24));
        proveForgotten(readFive().write(10, 1, 24));
        proveForgotten(readFive().write(NONE, 1, 24));
        Calls.filled(99, BOTH, 5).read(5, 0).digits(1, 9).write(10, 1, 24).number(0);
    }

    private static void noneLeftBy43And46() {
        records(BOTH).rewrite(NONE, 7, 43).number(0).remove(NONE, 43).number(0);
        records(BOTH).read(5, 0).read(4, 23).next(ON, 46).number(0).rewrite(NONE, 7, 43);
        atTheEnd(BOTH).next(BACK, 46).number(0).remove(NONE, 43);
    }

    private static void keptByWhatIsAsked() {
        readFive().value(50).rewrite(NONE, 7, 0);
        readFive().number(5).number(5).rewrite(NONE, 7, 0);
        readFive().cell(2, 20).cell(3, 0).noCell(0).noCell(10).rewrite(NONE, 7, 0);
        readFive().records(3).rewrite(NONE, 7, 0);
        readFive().count(0, 9).count(1, 1).count(2, 2).count(3, 8).count(4, 2).count(5, NONE).rewrite(NONE, 7, 0);
    }

    private static void keptByDigits() {
        readFive().digits(1, 3).number(5).digits(9, 1).number(5).digits(0, NONE).number(5).remove(NONE, 0).cell(5, 0);
    }

    private static void toldByReadAndNext() {
        records(BOTH).read(5, 0).number(5).read(2, 0).number(2).next(ON, 0).number(5).next(BACK, 0).number(2);
    }

    private static void places() {
        Calls.sentence("What it is", "An object is used for at most 512 calls", TermsEdgesTest::limitOfCalls);
        Calls.sentence("What it is", "at most 512 calls after it has been made", TermsEdgesTest::lastWriteOfAll);
        Calls.sentence("Terms", "PLACES are 1 .. most", TermsEdgesTest::leastAndGreatestPlace);
        Calls.sentence("Terms", "each has a record (a number of 64 bits)", TermsEdgesTest::recordsOf64Bits);
        Calls.sentence("Terms", "a record (a number of 64 bits) or none", TermsEdgesTest::aRecordOfZeroIsOne);
        Calls.sentence("Terms", "The file is NOT THERE at first.", TermsEdgesTest::notThereAtFirst);
        Calls.sentence("Terms", "It is closed, or OPEN in a MODE", TermsEdgesTest::closedAtFirst);
        Calls.sentence("Terms", "0 input, 1 output, 2 both, 3 extend", TermsEdgesTest::fourModes);
        Calls.sentence("Terms", "ahead of all, behind a place, at a place, lost", TermsEdgesTest::fourPositions);
        Calls.sentence("Terms", "the record READ last (a place), or none", TermsEdgesTest::noneReadAtFirst);
        Calls.sentence("Terms", "(9 at first)", TermsEdgesTest::nineDigitsAtFirst);
        Calls.sentence("Terms", "numbers that have more are TOO LONG", TermsEdgesTest::tooManyDigits);
    }

    private static void refusals() {
        String ahead = "it goes ahead of all";
        Calls.sentence("Terms, 41", ahead, TermsEdgesTest::noneAheadOf41);
        Calls.sentence("Terms, 42", ahead, TermsEdgesTest::noneAheadOf42);
        Calls.sentence("Terms, 47", ahead, TermsEdgesTest::noneAheadOf47);
        Calls.sentence("Terms, 23", ahead, TermsEdgesTest::noneAheadOf23);
        String nothing = "What answers 41 to 49 but 43 and 46, or NONE, changes nothing";
        Calls.sentence("Terms, 41", nothing, TermsEdgesTest::refusedWith41);
        Calls.sentence("Terms, 42", nothing, TermsEdgesTest::refusedWith42);
        Calls.sentence("Terms, 47", nothing, TermsEdgesTest::refusedWith47);
        Calls.sentence("Terms, 48", nothing, TermsEdgesTest::refusedWith48);
        Calls.sentence("Terms, 49", nothing, TermsEdgesTest::refusedWith49);
        Calls.sentence("Terms, NONE", nothing, TermsEdgesTest::refusedWithNone);
    }

    private static void recordReadLast() {
        String forgotten = "make the record read last none";
        Calls.sentence("Terms, 0", forgotten, TermsEdgesTest::forgottenBy0);
        Calls.sentence("Terms, 10", forgotten, TermsEdgesTest::forgottenBy10);
        Calls.sentence("Terms, 14", forgotten, TermsEdgesTest::forgottenBy14);
        Calls.sentence("Terms, 22", forgotten, TermsEdgesTest::forgottenBy22);
        Calls.sentence("Terms, 23", forgotten, TermsEdgesTest::forgottenBy23);
        Calls.sentence("Terms, 24", forgotten, TermsEdgesTest::forgottenBy24);
        Calls.sentence("Terms, 43 and 46", forgotten, TermsEdgesTest::noneLeftBy43And46);
        Calls.sentence("Terms", "and what is asked aside", TermsEdgesTest::keptByWhatIsAsked);
        Calls.sentence("Terms", "(digits() and what is asked aside)", TermsEdgesTest::keptByDigits);
        Calls.sentence("Terms", "but for what is told", TermsEdgesTest::toldByReadAndNext);
    }

    public static void main(String[] args) {
        places();
        refusals();
        recordReadLast();
        Calls.end();
    }
}
