import java.util.Arrays;

/** A plain model of the document: a row with every place, and every position by its own name. */
final class Model {
    private enum Stand { AHEAD, BEHIND, AT, LOST, END }

    private final int most;
    private final Long[] rows;
    private boolean there = false;
    private int mode = -1;
    private Stand stand = Stand.AHEAD;
    private int place = 0;
    private int last = 0;
    private long value = 0;
    private int digits = 9;

    Model(int most) {
        this.most = most < 0 ? 0 : most > 65536 ? 65536 : most;
        this.rows = new Long[this.most + 1];
    }

    /** Two models that tell the same here answer every call alike. */
    String state() {
        return there + " " + mode + " " + stand + " " + place + " " + last + " " + value + " " + digits + " "
            + Arrays.toString(rows);
    }

    /** The place that the position is at or behind; any number when it is neither. */
    int nearPosition() {
        return place;
    }

    int open(int wanted) {
        if (wanted < 0 || wanted > 4) {
            return -1;
        }
        if (wanted == 4 ? mode < 0 : mode >= 0) {
            return wanted == 4 ? 42 : 41;
        }
        moveTo(Stand.AHEAD, 0);
        if (wanted == 4) {
            mode = -1;
            return 0;
        }
        if (!there && wanted % 2 == 0) {
            return 35;
        }
        if (wanted == 1) {
            Arrays.fill(rows, null);
        }
        int status = wanted == 3 && !there ? 5 : 0;
        there = true;
        mode = wanted;
        return status;
    }

    int write(int number, long v) {
        if (mode <= 0) {
            return mode < 0 ? 42 : 48;
        }
        last = 0;
        if (number == -1 && mode == 2) {
            return 24;
        }
        int to = number == -1 ? down(most) + 1 : number;
        if (!isPlace(to) || isTooLong(to)) {
            return 24;
        }
        if (isFilled(to)) {
            return 22;
        }
        rows[to] = v;
        value = v;
        return 0;
    }

    int read(int number) {
        if (unreadable() != 0) {
            return unreadable();
        }
        if (!isFilled(number)) {
            moveTo(Stand.LOST, 0);
            return 23;
        }
        return got(number);
    }

    long value() {
        return value;
    }

    int start(int op, int number) {
        if (op < 0 || op > 4) {
            return -1;
        }
        if (unreadable() != 0) {
            return unreadable();
        }
        int n = op == 0 ? (isFilled(number) ? number : 0)
            : op == 1 ? up(number + 1L)
            : op == 2 ? up(number)
            : op == 3 ? down(number - 1L)
            : down(number);
        moveTo(n == 0 ? Stand.LOST : Stand.AT, n);
        return n == 0 ? 23 : 0;
    }

    int next(boolean back) {
        if (unreadable() != 0) {
            return unreadable();
        }
        last = 0;
        if (stand == Stand.LOST || stand == Stand.END) {
            return 46;
        }
        int n = fromPosition(back);
        if (n == 0) {
            moveTo(Stand.END, 0);
            return 10;
        }
        if (isTooLong(n)) {
            moveTo(Stand.LOST, 0);
            return 14;
        }
        return got(n);
    }

    int rewrite(int number, long v) {
        int n = number == -1 ? last : number;
        int status = change(number);
        if (status == 0) {
            rows[n] = v;
            value = v;
        }
        return status;
    }

    int remove(int number) {
        int n = number == -1 ? last : number;
        int status = change(number);
        if (status == 0) {
            rows[n] = null;
        }
        return status;
    }

    int number() {
        return last;
    }

    long cell(int i) {
        if (!isPlace(i)) {
            throw new ArrayIndexOutOfBoundsException("no such place");
        }
        return rows[i] == null ? 0 : rows[i];
    }

    int records() {
        int sum = 0;
        for (Long row : rows) {
            sum += row == null ? 0 : 1;
        }
        return sum;
    }

    int digits(int n) {
        if (n < 1 || n > 9) {
            return -1;
        }
        int held = digits;
        digits = n;
        return held;
    }

    int count(int what) {
        return what == 0 ? most : what == 1 ? (there ? 1 : 0) : what == 2 ? mode
            : what == 3 ? down(most) : what == 4 ? up(1) : -1;
    }

    private boolean isPlace(long n) {
        return n >= 1 && n <= most;
    }

    private boolean isFilled(long n) {
        return isPlace(n) && rows[(int) n] != null;
    }

    private boolean isTooLong(int n) {
        return Integer.toString(n).length() > digits;
    }

    private int up(long from) {
        for (long n = Math.max(from, 1); n <= most; n++) {
            if (isFilled(n)) {
                return (int) n;
            }
        }
        return 0;
    }

    private int down(long from) {
        for (long n = Math.min(from, most); n >= 1; n--) {
            if (isFilled(n)) {
                return (int) n;
            }
        }
        return 0;
    }

    private int fromPosition(boolean back) {
        switch (stand) {
            case AHEAD:
                return back ? 0 : up(1);
            case BEHIND:
                return back ? down(place - 1L) : up(place + 1L);
            default:
                return back ? down(place) : up(place);
        }
    }

    private int unreadable() {
        return mode < 0 ? 42 : mode % 2 == 1 ? 47 : 0;
    }

    private int change(int number) {
        if (mode != 2) {
            return mode < 0 ? 42 : 49;
        }
        int n = number == -1 ? last : number;
        last = 0;
        return isFilled(n) ? 0 : number == -1 ? 43 : 23;
    }

    private int got(int n) {
        moveTo(Stand.BEHIND, n);
        last = n;
        value = rows[n];
        return 0;
    }

    private void moveTo(Stand where, int n) {
        stand = where;
        place = n;
        last = 0;
    }
}
