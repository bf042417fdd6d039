/**
 * A relative file: records in numbered places, with holes, told by the statuses of a business language.
 */
public final class RelativeFiles {
    public static final int NONE = -1;

    private static final int MOST_PLACES = 65536;
    // An object serves at most so many calls, and a call writes at most one record.
    private static final int MOST_RECORDS = 512;
    private static final int MOST_DIGITS = 9;
    // Places begin at 1, so that 0 can stand for none.
    private static final int NO_PLACE = 0;

    private static final int INPUT = 0;
    private static final int OUTPUT = 1;
    private static final int BOTH = 2;
    private static final int EXTEND = 3;
    private static final int CLOSE = 4;

    private static final int DONE = 0;
    private static final int MADE = 5;
    private static final int AT_END = 10;
    private static final int TOO_LONG = 14;
    private static final int TAKEN = 22;
    private static final int MISSING = 23;
    private static final int OUTSIDE = 24;
    private static final int NOT_THERE = 35;
    private static final int IS_OPEN = 41;
    private static final int NOT_OPEN = 42;
    private static final int NOTHING_READ = 43;
    private static final int NO_NEXT = 46;
    private static final int NOT_FOR_READING = 47;
    private static final int NOT_FOR_WRITING = 48;
    private static final int NOT_FOR_BOTH = 49;

    private static final int EQUAL = 0;
    private static final int GREATER = 1;
    private static final int NOT_LESS = 2;
    private static final int LESS = 3;
    private static final int NOT_GREATER = 4;

    // Ahead of all is the same as behind place 0: no record is less, every record is greater.
    private static final int BEHIND = 0;
    private static final int AT = 1;
    // Lost, and behind the end: both answer 46, and the same calls bring the position back.
    private static final int NOWHERE = 2;

    private final int most;
    private final Shelf shelf;
    private boolean there;
    private int openMode;
    private int standing;
    private int position;
    private int lastRead;
    private long lastValue;
    private int keyDigits;

    public RelativeFiles(int most) {
        this.most = Math.max(0, Math.min(most, MOST_PLACES));
        this.shelf = new Shelf(Math.min(this.most, MOST_RECORDS));
        this.there = false;
        this.openMode = NONE;
        this.standing = BEHIND;
        this.position = NO_PLACE;
        this.lastRead = NO_PLACE;
        this.lastValue = 0L;
        this.keyDigits = MOST_DIGITS;
    }

    public int open(int mode) {
        if (mode < INPUT || mode > CLOSE) {
            return NONE;
        }
        return mode == CLOSE ? closeFile() : openFile(mode);
    }

    public int write(int number, long v) {
        if (openMode == NONE) {
            return NOT_OPEN;
        }
        if (openMode == INPUT) {
            return NOT_FOR_WRITING;
        }
        lastRead = NO_PLACE;
        int place = number == NONE ? placeInOrder() : number;
        if (!isPlace(place) || isTooLong(place)) {
            return OUTSIDE;
        }
        if (shelf.has(place)) {
            return TAKEN;
        }
        // Only an object that is used beyond its last promised call comes to a full shelf.
        if (!shelf.add(place, v)) {
            return OUTSIDE;
        }
        lastValue = v;
        return DONE;
    }

    public int read(int number) {
        int refusal = refusalToRead();
        if (refusal != DONE) {
            return refusal;
        }
        if (!shelf.has(number)) {
            losePosition();
            return MISSING;
        }
        take(number);
        return DONE;
    }

    public long value() {
        return lastValue;
    }

    public int start(int op, int number) {
        if (op < EQUAL || op > NOT_GREATER) {
            return NONE;
        }
        int refusal = refusalToRead();
        if (refusal != DONE) {
            return refusal;
        }
        int place = placeToStart(op, number);
        if (place == NO_PLACE) {
            losePosition();
            return MISSING;
        }
        stand(AT, place);
        return DONE;
    }

    public int next(boolean back) {
        int refusal = refusalToRead();
        if (refusal != DONE) {
            return refusal;
        }
        if (standing == NOWHERE) {
            lastRead = NO_PLACE;
            return NO_NEXT;
        }
        int place = placeFromPosition(back);
        if (place == NO_PLACE) {
            losePosition();
            return AT_END;
        }
        if (isTooLong(place)) {
            losePosition();
            return TOO_LONG;
        }
        take(place);
        return DONE;
    }

    public int rewrite(int number, long v) {
        int place = placeToChange(number);
        int status = statusOfChange(number, place);
        if (status == DONE) {
            shelf.replace(place, v);
            lastValue = v;
        }
        return status;
    }

    public int remove(int number) {
        int place = placeToChange(number);
        int status = statusOfChange(number, place);
        if (status == DONE) {
            shelf.drop(place);
        }
        return status;
    }

    public int number() {
        return lastRead;
    }

    public long cell(int i) throws ArrayIndexOutOfBoundsException {
        if (!isPlace(i)) {
            throw new ArrayIndexOutOfBoundsException("no such place");
        }
        return shelf.recordOf(i);
    }

    public int records() {
        return shelf.size();
    }

    public int digits(int n) {
        if (n < 1 || n > MOST_DIGITS) {
            return NONE;
        }
        int held = keyDigits;
        keyDigits = n;
        return held;
    }

    public int count(int what) {
        switch (what) {
            case 0:
                return most;
            case 1:
                return there ? 1 : 0;
            case 2:
                return openMode;
            case 3:
                return shelf.greatest();
            case 4:
                return shelf.least();
            default:
                return NONE;
        }
    }

    private int openFile(int mode) {
        if (openMode != NONE) {
            return IS_OPEN;
        }
        stand(BEHIND, NO_PLACE);
        boolean wasThere = there;
        if (!wasThere && (mode == INPUT || mode == BOTH)) {
            return NOT_THERE;
        }
        if (mode == OUTPUT) {
            shelf.clear();
        }
        there = true;
        openMode = mode;
        return mode == EXTEND && !wasThere ? MADE : DONE;
    }

    private int closeFile() {
        if (openMode == NONE) {
            return NOT_OPEN;
        }
        stand(BEHIND, NO_PLACE);
        openMode = NONE;
        return DONE;
    }

    private int refusalToRead() {
        if (openMode == NONE) {
            return NOT_OPEN;
        }
        return openMode == INPUT || openMode == BOTH ? DONE : NOT_FOR_READING;
    }

    private int statusOfChange(int number, int place) {
        if (openMode == NONE) {
            return NOT_OPEN;
        }
        if (openMode != BOTH) {
            return NOT_FOR_BOTH;
        }
        lastRead = NO_PLACE;
        if (shelf.has(place)) {
            return DONE;
        }
        return number == NONE ? NOTHING_READ : MISSING;
    }

    private int placeToChange(int number) {
        return number == NONE ? lastRead : number;
    }

    private int placeInOrder() {
        return openMode == BOTH ? NO_PLACE : shelf.greatest() + 1;
    }

    private int placeToStart(int op, int number) {
        switch (op) {
            case EQUAL:
                return shelf.has(number) ? number : NO_PLACE;
            case GREATER:
                return shelf.firstAbove(number);
            case NOT_LESS:
                return shelf.has(number) ? number : shelf.firstAbove(number);
            case LESS:
                return shelf.lastBelow(number);
            case NOT_GREATER:
                return shelf.has(number) ? number : shelf.lastBelow(number);
            default:
                return NO_PLACE;
        }
    }

    private int placeFromPosition(boolean back) {
        if (standing == AT && shelf.has(position)) {
            return position;
        }
        return back ? shelf.lastBelow(position) : shelf.firstAbove(position);
    }

    private void take(int place) {
        stand(BEHIND, place);
        lastRead = place;
        lastValue = shelf.recordOf(place);
    }

    private void losePosition() {
        stand(NOWHERE, NO_PLACE);
    }

    // Every call that moves the position forgets the record read last; take() tells the new one after it.
    private void stand(int how, int place) {
        standing = how;
        position = place;
        lastRead = NO_PLACE;
    }

    private boolean isPlace(int number) {
        return number >= 1 && number <= most;
    }

    private boolean isTooLong(int place) {
        int rest = place;
        for (int i = 0; i < keyDigits; i++) {
            rest /= 10;
        }
        return rest > 0;
    }

    /**
     * The records that there are, in the order of their places: few records in many places,
     * so a row for every place would be far larger than what can ever be written.
     */
    private static final class Shelf {
        private final int[] places;
        private final long[] values;
        private int held;

        Shelf(int room) {
            int length = Math.max(0, room);
            this.places = new int[length];
            this.values = new long[length];
            this.held = 0;
        }

        int size() {
            return held;
        }

        void clear() {
            held = 0;
        }

        boolean has(int place) {
            return isAt(rank(place), place);
        }

        long recordOf(int place) {
            int index = rank(place);
            return isAt(index, place) ? values[index] : 0L;
        }

        int least() {
            return placeAt(0);
        }

        int greatest() {
            return placeAt(held - 1);
        }

        int firstAbove(int number) {
            int index = rank(number);
            return placeAt(isAt(index, number) ? index + 1 : index);
        }

        int lastBelow(int number) {
            return placeAt(rank(number) - 1);
        }

        boolean add(int place, long v) {
            if (held >= places.length) {
                return false;
            }
            int index = rank(place);
            for (int i = held; i > index; i--) {
                places[i] = places[i - 1];
                values[i] = values[i - 1];
            }
            places[index] = place;
            values[index] = v;
            held++;
            return true;
        }

        void replace(int place, long v) {
            int index = rank(place);
            if (isAt(index, place)) {
                values[index] = v;
            }
        }

        void drop(int place) {
            int index = rank(place);
            if (!isAt(index, place)) {
                return;
            }
            held--;
            for (int i = index; i < held; i++) {
                places[i] = places[i + 1];
                values[i] = values[i + 1];
            }
        }

        // How many records have a lesser number: the index of this one, or where it would stand.
        private int rank(int number) {
            int index = 0;
            while (index < held && places[index] < number) {
                index++;
            }
            return index;
        }

        private boolean isAt(int index, int place) {
            return index < held && places[index] == place;
        }

        private int placeAt(int index) {
            return index >= 0 && index < held ? places[index] : NO_PLACE;
        }
    }
}
