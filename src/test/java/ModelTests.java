/**
 * Long runs of calls on a shop and on a plain model of the document beside it: every answer and
 * every digest is to be the same. The calls are drawn from a fixed row of numbers.
 */
public final class ModelTests {
    private static final int RUNS = 400;
    private static final int CALLS = 512;

    private static final long BAD_INDEX = Long.MIN_VALUE;
    private static final long BAD_ARGUMENT = Long.MIN_VALUE + 1;
    private static final long BAD_STATE = Long.MIN_VALUE + 2;

    private static long draw = 20261119L;
    private static int wrong = 0;

    public static void main(String[] args) {
        for (int run = 0; run < RUNS && wrong < 20; run++) {
            run(run);
        }
        System.out.println("ModelTests: " + (wrong == 0 ? "all answers are as due" : wrong + " answers are not as due"));
        if (wrong != 0) {
            System.exit(1);
        }
    }

    private static void run(int run) {
        CuckooShop shop = new CuckooShop();
        Model model = new Model();
        int nastiness = drawn(3);
        for (int call = 0; call < CALLS / 2; call++) {
            int kind = call < 3 ? 0 : drawn(18);
            int[] x = arguments(kind, model.n, nastiness);
            long got = answer(shop, kind, x);
            long want = model.answer(kind, x);
            long digest = shop.digest();
            if (got != want || digest != model.digest()) {
                wrong++;
                System.out.println("run " + run + ", call " + call + ": kind " + kind + " of "
                    + x[0] + ", " + x[1] + ", " + x[2] + ", " + x[3] + " answered " + got + ", due is " + want);
                return;
            }
        }
    }

    private static int drawn(int bound) {
        draw = draw * 6364136223846793005L + 1442695040888963407L;
        return (int) ((draw >>> 33) % bound);
    }

    private static int between(int least, int most) {
        return least + drawn(most - least + 1);
    }

    /** Mostly within the bounds, at times on or just past them, at times far out. */
    private static int near(int least, int most, int nastiness) {
        int how = drawn(40);
        if (how < nastiness) {
            return drawn(2) == 0 ? least - 1 : most + 1;
        }
        if (how == 38 && nastiness > 0) {
            return drawn(2) == 0 ? Integer.MIN_VALUE : Integer.MAX_VALUE;
        }
        if (how > 34) {
            return drawn(2) == 0 ? least : most;
        }
        return between(least, most);
    }

    private static int[] arguments(int kind, int n, int nastiness) {
        int clock = near(0, n - 1 < 0 ? 0 : n - 1, nastiness);
        int time = near(0, 719, nastiness);
        int minutes = drawn(3) > 0 ? near(1, 90, nastiness) : near(1, 720, nastiness);
        switch (kind) {
            case 0:
                return new int[] {time, 0, 0, 0};
            case 1:
                return new int[] {clock, near(20, 40, nastiness), near(20, 40, nastiness), near(-20, 20, nastiness)};
            case 2:
                return new int[] {clock, time, 0, 0};
            case 4:
                return new int[] {clock, near(0, 2, nastiness), 0, 0};
            case 5:
                return shutArguments(clock, time, nastiness);
            case 6:
                return new int[] {clock, near(0, 10, nastiness), 0, 0};
            case 8:
                return new int[] {near(0, 7, nastiness), 0, 0, 0};
            case 9:
            case 12:
                return new int[] {minutes, 0, 0, 0};
            case 13:
                return new int[] {minutes, near(0, 3, nastiness), 0, 0};
            default:
                return new int[] {clock, 0, 0, 0};
        }
    }

    private static int[] shutArguments(int clock, int time, int nastiness) {
        int how = drawn(6);
        if (how == 0) {
            return new int[] {clock, -1, near(0, 1, nastiness), 0};
        }
        if (how == 1) {
            return new int[] {clock, time, time, 0};
        }
        if (how == 2) {
            return new int[] {clock, 30 * drawn(24), 30 * drawn(24), 0};
        }
        return new int[] {clock, time, near(0, 719, nastiness), 0};
    }

    private static long answer(CuckooShop shop, int kind, int[] x) {
        try {
            switch (kind) {
                case 0: return shop.come(x[0]);
                case 1: return shop.gear(x[0], x[1], x[2], x[3]);
                case 2: return shop.set(x[0], x[1]);
                case 3: return shop.wind(x[0]);
                case 4: return shop.mend(x[0], x[1]);
                case 5: return shop.shut(x[0], x[1], x[2]);
                case 6: return shop.clock(x[0], x[1]);
                case 7: return shop.off(x[0]);
                case 8: return shop.count(x[0]);
                case 9: return shop.pass(x[0]);
                case 10: return shop.next(x[0]);
                case 11: return shop.stands(x[0]);
                case 12: return shop.loudest(x[0]);
                case 13: return shop.foresee(x[0], x[1]);
                case 14: return shop.advise(x[0]);
                case 15: return Double.doubleToLongBits(shop.mean());
                default: return shop.digest();
            }
        } catch (RuntimeException e) {
            return e.getClass() == IndexOutOfBoundsException.class ? BAD_INDEX
                : e.getClass() == IllegalArgumentException.class ? BAD_ARGUMENT
                : e.getClass() == IllegalStateException.class ? BAD_STATE : Long.MAX_VALUE;
        }
    }

    /** The document word by word, in rows of numbers, and what would be by living it on a copy. */
    private static final class Model {
        int n = 0;
        int minute = 0;
        int[] a = new int[10], b = new int[10], swing = new int[10], chain = new int[10], oil = new int[10];
        int[] bellows = new int[10], goes = new int[10], shows = new int[10], rest = new int[10];
        int[] from = new int[10], till = new int[10], called = new int[10], missed = new int[10], latest = new int[10];

        Model copy() {
            Model m = new Model();
            m.n = n;
            m.minute = minute;
            int[][] mine = rows();
            int[][] its = m.rows();
            for (int i = 0; i < mine.length; i++) {
                System.arraycopy(mine[i], 0, its[i], 0, 10);
            }
            return m;
        }

        int[][] rows() {
            return new int[][] {a, b, swing, chain, oil, bellows, goes, shows, rest, from, till, called, missed, latest};
        }

        long answer(int kind, int[] x) {
            boolean ofAClock = kind >= 1 && kind <= 7 || kind == 10 || kind == 11 || kind == 14;
            if (ofAClock && (x[0] < 0 || x[0] >= n)) {
                return BAD_INDEX;
            }
            switch (kind) {
                case 0: return come(x[0]);
                case 1: return gear(x[0], x[1], x[2], x[3]);
                case 2: return set(x[0], x[1]);
                case 3: return wind(x[0]);
                case 4: return mend(x[0], x[1]);
                case 5: return shut(x[0], x[1], x[2]);
                case 6: return x[1] < 0 || x[1] > 10 ? BAD_INDEX : clock(x[0])[x[1]];
                case 7: return off(x[0]);
                case 8: return x[0] < 0 || x[0] > 7 ? BAD_INDEX : counts()[x[0]];
                case 9: return x[0] < 1 || x[0] > 720 ? BAD_ARGUMENT : pass(x[0]);
                case 10: return next(x[0]);
                case 11: return stands(x[0]);
                case 12: return x[0] < 1 || x[0] > 720 ? BAD_ARGUMENT : loudest(x[0]);
                case 13: return foresee(x[0], x[1]);
                case 14: return advise(x[0]);
                case 15: return Double.doubleToLongBits(mean());
                default: return digest();
            }
        }

        long come(int shown) {
            if (shown < 0 || shown > 719) {
                return BAD_ARGUMENT;
            }
            if (n == 10) {
                return BAD_STATE;
            }
            a[n] = 30;
            b[n] = 30;
            chain[n] = 600;
            oil[n] = 100;
            bellows[n] = 60;
            goes[n] = 1;
            shows[n] = shown;
            from[n] = -1;
            return n++;
        }

        long gear(int i, int toA, int toB, int toSwing) {
            if (toA < 20 || toA > 40 || toB < 20 || toB > 40 || toSwing < -20 || toSwing > 20) {
                return BAD_ARGUMENT;
            }
            a[i] = toA;
            b[i] = toB;
            swing[i] = toSwing;
            return advance(i);
        }

        int advance(int i) {
            int whole = 900 * a[i] / b[i] + swing[i];
            int tenth = whole / 10;
            if (oil[i] < 20) {
                whole -= tenth;
            }
            return whole;
        }

        int off(int i) {
            int off = shows[i] - minute % 720;
            while (off < -360) {
                off += 720;
            }
            while (off > 359) {
                off -= 720;
            }
            return off;
        }

        long set(int i, int shown) {
            if (shown < 0 || shown > 719) {
                return BAD_ARGUMENT;
            }
            int was = off(i);
            shows[i] = shown;
            rest[i] = 0;
            return was;
        }

        long wind(int i) {
            int was = chain[i];
            chain[i] = 600;
            goes[i] = 1;
            return 600 - was;
        }

        long mend(int i, int what) {
            int was;
            switch (what) {
                case 0:
                    was = oil[i];
                    oil[i] = 100;
                    return 100 - was;
                case 1:
                    was = bellows[i];
                    bellows[i] = 60;
                    return 60 - was;
                case 2:
                    if (goes[i] == 1) {
                        goes[i] = 0;
                    } else if (chain[i] != 0) {
                        goes[i] = 1;
                    }
                    return goes[i];
                default:
                    return BAD_ARGUMENT;
            }
        }

        long shut(int i, int first, int end) {
            if (first < -1 || first > 719 || end < 0 || end > 719 || first == -1 && end != 0) {
                return BAD_ARGUMENT;
            }
            int was = from[i];
            from[i] = first;
            till[i] = end;
            return was;
        }

        /** Goes round the dial from the first time on, as the document tells it. */
        boolean shutAt(int i, int time) {
            if (from[i] == -1) {
                return false;
            }
            int at = from[i];
            do {
                if (at == time) {
                    return true;
                }
                at = (at + 1) % 720;
            } while (at != till[i]);
            return false;
        }

        int[] clock(int i) {
            return new int[] {shows[i], rest[i], chain[i], oil[i], bellows[i], goes[i], advance(i), called[i], missed[i], latest[i], shutAt(i, shows[i]) ? 1 : 0};
        }

        int[] counts() {
            int[] c = {minute, minute % 720, n, 0, 0, 0, 0, 0};
            for (int i = 0; i < n; i++) {
                c[3] += goes[i];
                c[4] += called[i];
                c[5] += latest[i];
                c[6] += off(i) == 0 ? 1 : 0;
                c[7] += off(i) < 0 ? -off(i) : off(i);
            }
            return c;
        }

        long pass(int minutes) {
            int before = counts()[4];
            for (int k = 0; k < minutes; k++) {
                for (int i = 0; i < n; i++) {
                    latest[i] = 0;
                    if (goes[i] == 1) {
                        goOn(i);
                    }
                }
                minute++;
            }
            return counts()[4] - before;
        }

        void goOn(int i) {
            rest[i] += advance(i);
            while (rest[i] >= 900) {
                rest[i] -= 900;
                shows[i] = shows[i] == 719 ? 0 : shows[i] + 1;
                int due = shows[i] % 60 == 0 ? (shows[i] == 0 ? 12 : shows[i] / 60) : shows[i] % 30 == 0 ? 1 : 0;
                if (due > 0 && !shutAt(i, shows[i])) {
                    for (int k = 0; k < due; k++) {
                        if (bellows[i] > 0) {
                            bellows[i]--;
                            called[i]++;
                            latest[i]++;
                        } else {
                            missed[i]++;
                        }
                    }
                }
            }
            chain[i]--;
            if (minute % 10 == 0 && oil[i] > 0) {
                oil[i]--;
            }
            if (chain[i] == 0) {
                goes[i] = 0;
            }
        }

        long next(int i) {
            Model m = copy();
            for (int k = 1; k <= 720; k++) {
                m.pass(1);
                if (m.called[i] > called[i]) {
                    return k;
                }
            }
            return -1;
        }

        long stands(int i) {
            Model m = copy();
            int k = 0;
            while (m.goes[i] == 1) {
                m.pass(1);
                k++;
            }
            return k;
        }

        long loudest(int minutes) {
            Model m = copy();
            long most = 0;
            int behind = -1;
            for (int k = 1; k <= minutes; k++) {
                long calls = m.pass(1);
                if (calls > most) {
                    most = calls;
                    behind = k;
                }
            }
            return behind;
        }

        long foresee(int minutes, int what) {
            if (minutes < 1 || minutes > 720) {
                return BAD_ARGUMENT;
            }
            if (what < 0 || what > 3) {
                return BAD_INDEX;
            }
            Model m = copy();
            long calls = m.pass(minutes);
            if (what == 0) {
                return calls;
            }
            if (what == 1) {
                int more = 0;
                for (int i = 0; i < n; i++) {
                    more += m.missed[i] - missed[i];
                }
                return more;
            }
            return m.counts()[what == 2 ? 3 : 7];
        }

        long advise(int i) {
            Model m = copy();
            int best = -1;
            int nearest = 0;
            for (int p = 20; p <= 40; p++) {
                for (int q = 20; q <= 40; q++) {
                    m.a[i] = p;
                    m.b[i] = q;
                    int far = m.advance(i) < 900 ? 900 - m.advance(i) : m.advance(i) - 900;
                    if (best == -1 || far < nearest) {
                        best = 100 * p + q;
                        nearest = far;
                    }
                }
            }
            return best;
        }

        double mean() {
            double sum = 0;
            int going = 0;
            for (int i = 0; i < n; i++) {
                sum += goes[i] * advance(i);
                going += goes[i];
            }
            return going == 0 ? 0 : sum / going;
        }

        long digest() {
            long d = 1009;
            for (int x : counts()) {
                d = 31 * d + x;
            }
            for (int i = 0; i < n; i++) {
                for (int x : new int[] {a[i], b[i], swing[i], from[i], till[i]}) {
                    d = 31 * d + x;
                }
                for (int x : clock(i)) {
                    d = 31 * d + x;
                }
            }
            return d;
        }
    }
}
