import java.util.Random;

/**
 * Long mixed runs of calls against a plain model of the document, which holds a row with every place
 * and every position by its own name. The seeds are fixed, so that every run is the same.
 */
public final class ModelTest {
    private static final int RUNS = 4000;
    private static final int CALLS = 512;
    private static final int[] SIZES = {0, 1, 2, 3, 7, 12, 30, 120, 700, 1005, 65536, 70000, -5};
    private static final int[] EDGES = {
        Integer.MIN_VALUE, -2, -1, 0, 1, 9, 10, 99, 100, 999, 1000, 9999, 10000, 65535, 65536, 65537, Integer.MAX_VALUE
    };

    private enum Stand { AHEAD, BEHIND, AT, LOST, END }

    private static final class Model {
        final int most;
        final Long[] rows;
        boolean there = false;
        int mode = -1;
        Stand stand = Stand.AHEAD;
        int place = 0;
        int last = 0;
        long value = 0;
        int digits = 9;

        Model(int most) {
            this.most = most < 0 ? 0 : most > 65536 ? 65536 : most;
            this.rows = new Long[this.most + 1];
        }

        boolean filled(long n) {
            return n >= 1 && n <= most && rows[(int) n] != null;
        }

        int up(long from) {
            for (long n = Math.max(from, 1); n <= most; n++) {
                if (filled(n)) {
                    return (int) n;
                }
            }
            return 0;
        }

        int down(long from) {
            for (long n = Math.min(from, most); n >= 1; n--) {
                if (filled(n)) {
                    return (int) n;
                }
            }
            return 0;
        }

        boolean tooLong(int n) {
            return Integer.toString(n).length() > digits;
        }

        int open(int wanted) {
            if (wanted < 0 || wanted > 4) {
                return -1;
            }
            if (wanted == 4 ? mode < 0 : mode >= 0) {
                return wanted == 4 ? 42 : 41;
            }
            last = 0;
            stand = Stand.AHEAD;
            if (wanted == 4) {
                mode = -1;
                return 0;
            }
            if (!there && wanted % 2 == 0) {
                return 35;
            }
            if (wanted == 1) {
                java.util.Arrays.fill(rows, null);
            }
            int status = wanted == 3 && !there ? 5 : 0;
            there = true;
            mode = wanted;
            return status;
        }

        int write(int number, long v) {
            if (mode <= 0) {
                return mode < 0 ? 42 : 48;
            }
            last = 0;
            if (number == -1) {
                if (mode == 2) {
                    return 24;
                }
                number = down(most) + 1;
            }
            if (number < 1 || number > most || tooLong(number)) {
                return 24;
            }
            if (filled(number)) {
                return 22;
            }
            rows[number] = v;
            value = v;
            return 0;
        }

        int unreadable() {
            return mode < 0 ? 42 : mode % 2 == 1 ? 47 : 0;
        }

        int got(int n) {
            last = n;
            place = n;
            stand = Stand.BEHIND;
            value = rows[n];
            return 0;
        }

        int read(int number) {
            if (unreadable() != 0) {
                return unreadable();
            }
            last = 0;
            if (!filled(number)) {
                stand = Stand.LOST;
                return 23;
            }
            return got(number);
        }

        int start(int op, int number) {
            if (op < 0 || op > 4) {
                return -1;
            }
            if (unreadable() != 0) {
                return unreadable();
            }
            last = 0;
            int n = op == 0 ? (filled(number) ? number : 0)
                : op == 1 ? up(number + 1L)
                : op == 2 ? up(number)
                : op == 3 ? down(number - 1L)
                : down(number);
            stand = n == 0 ? Stand.LOST : Stand.AT;
            place = n;
            return n == 0 ? 23 : 0;
        }

        int next(boolean back) {
            if (unreadable() != 0) {
                return unreadable();
            }
            last = 0;
            int n = 0;
            switch (stand) {
                case LOST:
                case END:
                    return 46;
                case AHEAD:
                    n = back ? 0 : up(1);
                    break;
                case BEHIND:
                    n = back ? down(place - 1L) : up(place + 1L);
                    break;
                default:
                    n = back ? down(place) : up(place);
            }
            if (n == 0) {
                stand = Stand.END;
                return 10;
            }
            if (tooLong(n)) {
                stand = Stand.LOST;
                return 14;
            }
            return got(n);
        }

        int change(int number, Long v) {
            if (mode != 2) {
                return mode < 0 ? 42 : 49;
            }
            int n = number == -1 ? last : number;
            last = 0;
            if (!filled(n)) {
                return number == -1 ? 43 : 23;
            }
            rows[n] = v;
            if (v != null) {
                value = v;
            }
            return 0;
        }

        int setDigits(int n) {
            if (n < 1 || n > 9) {
                return -1;
            }
            int held = digits;
            digits = n;
            return held;
        }

        int records() {
            int sum = 0;
            for (Long row : rows) {
                sum += row == null ? 0 : 1;
            }
            return sum;
        }

        int count(int what) {
            return what == 0 ? most : what == 1 ? (there ? 1 : 0) : what == 2 ? mode
                : what == 3 ? down(most) : what == 4 ? up(1) : -1;
        }
    }

    private static int wrong = 0;

    private static void due(int seed, String call, long got, long want) {
        if (got != want && wrong++ < 20) {
            System.out.println("seed " + seed + ": " + call + " answered " + got + ", due is " + want);
        }
    }

    private static int number(Random chance, Model model) {
        switch (chance.nextInt(8)) {
            case 0:
                return EDGES[chance.nextInt(EDGES.length)];
            case 1:
                return -1;
            case 2:
                return Math.max(0, model.place + chance.nextInt(3) - 1);
            case 3:
                return chance.nextInt(model.most + 3) - 1;
            default:
                return 1 + chance.nextInt(Math.max(1, Math.min(model.most, 15)));
        }
    }

    private static void oneCall(int seed, Random chance, RelativeFiles x, Model m) {
        int n = number(chance, m);
        int small = chance.nextInt(7) - 1;
        long v = chance.nextInt(3) == 0 ? chance.nextLong() : chance.nextInt(100);
        boolean back = chance.nextBoolean();
        switch (chance.nextInt(20)) {
            case 0:
                due(seed, "open(" + small + ")", x.open(small), m.open(small));
                break;
            case 1:
                due(seed, "open(4)", x.open(4), m.open(4));
                int mode = chance.nextInt(3) == 0 ? chance.nextInt(4) : 2 + chance.nextInt(2);
                due(seed, "open(" + mode + ")", x.open(mode), m.open(mode));
                break;
            case 2: case 3: case 4: case 5:
                due(seed, "write(" + n + ", " + v + ")", x.write(n, v), m.write(n, v));
                break;
            case 6: case 7:
                due(seed, "read(" + n + ")", x.read(n), m.read(n));
                break;
            case 8: case 9:
                due(seed, "start(" + small + ", " + n + ")", x.start(small, n), m.start(small, n));
                break;
            case 10: case 11: case 12: case 13: case 14:
                due(seed, "next(" + back + ")", x.next(back), m.next(back));
                break;
            case 15: case 16:
                due(seed, "rewrite(" + n + ", " + v + ")", x.rewrite(n, v), m.change(n, v));
                break;
            case 17: case 18:
                due(seed, "remove(" + n + ")", x.remove(n), m.change(n, null));
                break;
            default:
                int digits = chance.nextInt(3) == 0 ? chance.nextInt(12) - 1 : 9;
                due(seed, "digits(" + digits + ")", x.digits(digits), m.setDigits(digits));
        }
    }

    private static void compareState(int seed, RelativeFiles x, Model m, int n) {
        due(seed, "value()", x.value(), m.value);
        due(seed, "number()", x.number(), m.last);
        if (n >= 1 && n <= m.most) {
            due(seed, "cell(" + n + ")", x.cell(n), m.rows[n] == null ? 0 : m.rows[n]);
        }
    }

    private static void compareWhole(int seed, RelativeFiles x, Model m) {
        due(seed, "records()", x.records(), m.records());
        for (int what = -1; what <= 5; what++) {
            due(seed, "count(" + what + ")", x.count(what), m.count(what));
        }
        for (int i = 1; i <= m.most; i++) {
            due(seed, "cell(" + i + ")", x.cell(i), m.rows[i] == null ? 0 : m.rows[i]);
        }
    }

    public static void main(String[] args) {
        for (int seed = 0; seed < RUNS && wrong == 0; seed++) {
            Random chance = new Random(seed);
            int most = SIZES[seed % SIZES.length];
            RelativeFiles x = new RelativeFiles(most);
            Model m = new Model(most);
            // State is asked for between the calls, which no call's answer may depend on.
            for (int i = 0; i < CALLS && wrong == 0; i++) {
                oneCall(seed, chance, x, m);
                compareState(seed, x, m, number(chance, m));
            }
            compareWhole(seed, x, m);
        }
        System.out.println(wrong == 0 ? "all answers are as due" : wrong + " answers are not as due");
        if (wrong != 0) {
            System.exit(1);
        }
    }
}
