/** A shop of cuckoo clocks. */
public final class CuckooShop {
    private static final int MOST_CLOCKS = 10;
    private static final int MOST_MINUTES = 720;
    private static final int DIAL = 720;
    private static final int HOUR = 60;
    private static final int HALF_HOUR = 30;
    private static final int MINUTE_OF_REST = 900;
    private static final int TRUE_ADVANCE = 900;
    private static final int FARTHEST = 1000000;
    private static final int LEAST_TEETH = 20;
    private static final int MOST_TEETH = 40;
    private static final int FIRST_TEETH = 30;
    private static final int MOST_SWING = 20;
    private static final int FULL_CHAIN = 600;
    private static final int FULL_OIL = 100;
    private static final int FULL_BELLOWS = 60;
    private static final int ENOUGH_OIL = 20;
    private static final int MINUTES_OF_OIL = 10;
    private static final int NEVER = -1;
    private static final int TALLIES = 8;
    private static final int READINGS = 11;
    private static final int GOES = 5;
    private static final int CALLS = 7;
    private static final int MISSED = 8;
    private static final int LATEST_CALLS = 9;
    private static final int FORECASTS = 4;

    private final Clock[] clocks;
    // Foreseeing runs on these copies: they are made once, so that no call makes objects.
    private final Clock[] copies;
    private int present;
    private int minute;

    /** Creates a shop without clocks, in the minute 0. */
    public CuckooShop() {
        clocks = new Clock[MOST_CLOCKS];
        copies = new Clock[MOST_CLOCKS];
        for (int i = 0; i < MOST_CLOCKS; i++) {
            clocks[i] = new Clock();
            copies[i] = new Clock();
        }
        present = 0;
        minute = 0;
    }

    // ---- clocks

    /** Takes in a new clock that shows the time; returns its number. */
    public int come(int shown) throws IllegalArgumentException, IllegalStateException {
        checkTime(shown);
        if (present >= MOST_CLOCKS) {
            throw new IllegalStateException("there are 10 clocks");
        }
        clocks[present].putHands(shown);
        present++;
        return present - 1;
    }

    /** Gives a clock its gears and its pendulum; returns its advance then. */
    public int gear(int clock, int a, int b, int swing) throws IndexOutOfBoundsException, IllegalArgumentException {
        checkClock(clock);
        if (!isWithin(a, LEAST_TEETH, MOST_TEETH) || !isWithin(b, LEAST_TEETH, MOST_TEETH)) {
            throw new IllegalArgumentException("a gear has 20 to 40 teeth");
        }
        if (!isWithin(swing, -MOST_SWING, MOST_SWING)) {
            throw new IllegalArgumentException("a pendulum is -20 to 20");
        }
        clocks[clock].fitTrain(a, b, swing);
        return clocks[clock].advance();
    }

    /** Sets a clock to a time; returns by how many minutes it was off before. */
    public int set(int clock, int shown) throws IndexOutOfBoundsException, IllegalArgumentException {
        checkClock(clock);
        checkTime(shown);
        int before = offOf(clocks[clock], minute);
        clocks[clock].putHands(shown);
        return before;
    }

    /** Draws the weight of a clock up; returns by how much its chain is more. */
    public int wind(int clock) throws IndexOutOfBoundsException {
        checkClock(clock);
        return clocks[clock].drawUp();
    }

    /** Mends a clock: 0 its oil, 1 its bellows, 2 makes it stand or go. */
    public int mend(int clock, int what) throws IndexOutOfBoundsException, IllegalArgumentException {
        checkClock(clock);
        switch (what) {
            case 0:
                return clocks[clock].fillOil();
            case 1:
                return clocks[clock].patchBellows();
            case 2:
                return clocks[clock].nudge();
            default:
                throw new IllegalArgumentException("what is mended is 0 to 2");
        }
    }

    /** Shuts the calls of a clock off; returns the first time from which it was shut off before. */
    public int shut(int clock, int from, int till) throws IndexOutOfBoundsException, IllegalArgumentException {
        checkClock(clock);
        if (from != NEVER) {
            checkTime(from);
        }
        checkTime(till);
        if (from == NEVER && till != 0) {
            throw new IllegalArgumentException("till is 0 if from is -1");
        }
        return clocks[clock].silence(from, till);
    }

    // ---- what is there

    /** Tells something of a clock. */
    public int clock(int clock, int what) throws IndexOutOfBoundsException {
        checkClock(clock);
        if (!isWithin(what, 0, READINGS - 1)) {
            throw new IndexOutOfBoundsException("what is told of a clock is 0 to 10");
        }
        return clocks[clock].reading(what);
    }

    /** Returns by how many minutes a clock shows more than the true time, -360 to 359. */
    public int off(int clock) throws IndexOutOfBoundsException {
        checkClock(clock);
        return offOf(clocks[clock], minute);
    }

    /** Tells something of the whole shop. */
    public int count(int what) throws IndexOutOfBoundsException {
        if (!isWithin(what, 0, TALLIES - 1)) {
            throw new IndexOutOfBoundsException("what is counted is 0 to 7");
        }
        return tally(what);
    }

    // ---- minutes

    /** Lets minutes go by; returns how many calls there are in them. */
    public int pass(int minutes) throws IllegalArgumentException {
        checkMinutes(minutes);
        int calls = 0;
        for (int gone = 0; gone < minutes; gone++) {
            calls += runRow(clocks, minute);
            minute++;
        }
        return calls;
    }

    // ---- what would be

    /** Returns behind how many minutes a clock calls next; -1 if it does not within 720. */
    public int next(int clock) throws IndexOutOfBoundsException {
        checkClock(clock);
        Clock copy = copies[clock];
        copy.copyFrom(clocks[clock]);
        for (int gone = 0; gone < MOST_MINUTES; gone++) {
            copy.runMinute(minute + gone);
            if (copy.latestCalls > 0) {
                return gone + 1;
            }
        }
        return NEVER;
    }

    /** Returns behind how many minutes a clock stands; 0 if it does. */
    public int stands(int clock) throws IndexOutOfBoundsException {
        checkClock(clock);
        return clocks[clock].minutesToStand();
    }

    /** Returns behind how many of the minutes the shop is the loudest; -1 if it is silent in them. */
    public int loudest(int minutes) throws IllegalArgumentException {
        checkMinutes(minutes);
        copyClocks();
        int most = 0;
        int behind = NEVER;
        for (int gone = 0; gone < minutes; gone++) {
            int calls = runRow(copies, minute + gone);
            if (calls > most) {
                most = calls;
                behind = gone + 1;
            }
        }
        return behind;
    }

    /** Tells how the shop would go on in the minutes to come. */
    public int foresee(int minutes, int what) throws IllegalArgumentException, IndexOutOfBoundsException {
        checkMinutes(minutes);
        if (!isWithin(what, 0, FORECASTS - 1)) {
            throw new IndexOutOfBoundsException("what is foreseen is 0 to 3");
        }
        copyClocks();
        int calls = 0;
        for (int gone = 0; gone < minutes; gone++) {
            calls += runRow(copies, minute + gone);
        }
        switch (what) {
            case 0:
                return calls;
            case 1:
                return sumOf(copies, MISSED) - sumOf(clocks, MISSED);
            case 2:
                return sumOf(copies, GOES);
            default:
                return offOfAll(copies, minute + minutes);
        }
    }

    /** Returns 100 * a and b of the gears that bring the advance of a clock the nearest to 900. */
    public int advise(int clock) throws IndexOutOfBoundsException {
        checkClock(clock);
        return clocks[clock].truestGears();
    }

    /** Returns the mean advance of all clocks that go; 0 if none does. */
    public double mean() {
        int going = 0;
        int advances = 0;
        for (int i = 0; i < present; i++) {
            if (clocks[i].goes) {
                going++;
                advances += clocks[i].advance();
            }
        }
        if (going == 0) {
            return 0.0;
        }
        return (double) advances / (double) going;
    }

    /** Computes a checksum of all that the shop tells. */
    public long digest() {
        long d = 1009L;
        for (int what = 0; what < TALLIES; what++) {
            d = d * 31L + tally(what);
        }
        for (int i = 0; i < present; i++) {
            d = clocks[i].mixInto(d);
        }
        return d;
    }

    private void checkClock(int clock) {
        if (clock < 0 || clock >= present) {
            throw new IndexOutOfBoundsException("there is no such clock");
        }
    }

    private static void checkTime(int time) {
        if (!isWithin(time, 0, DIAL - 1)) {
            throw new IllegalArgumentException("a time of the dial is 0 to 719");
        }
    }

    private static void checkMinutes(int minutes) {
        if (!isWithin(minutes, 1, MOST_MINUTES)) {
            throw new IllegalArgumentException("minutes are 1 to 720");
        }
    }

    private static boolean isWithin(int x, int least, int most) {
        return x >= least && x <= most;
    }

    private static int trueTime(int minute) {
        return Math.floorMod(minute, DIAL);
    }

    private static int offOf(Clock clock, int minute) {
        int ahead = clock.shown - trueTime(minute);
        return Math.floorMod(ahead + DIAL / 2, DIAL) - DIAL / 2;
    }

    private int runRow(Clock[] row, int number) {
        int calls = 0;
        for (int i = 0; i < present; i++) {
            row[i].runMinute(number);
            calls += row[i].latestCalls;
        }
        return calls;
    }

    private void copyClocks() {
        for (int i = 0; i < present; i++) {
            copies[i].copyFrom(clocks[i]);
        }
    }

    private int tally(int what) {
        switch (what) {
            case 0:
                return minute;
            case 1:
                return trueTime(minute);
            case 2:
                return present;
            case 3:
                return sumOf(clocks, GOES);
            case 4:
                return sumOf(clocks, CALLS);
            case 5:
                return sumOf(clocks, LATEST_CALLS);
            case 6:
                return trueClocks();
            default:
                return offOfAll(clocks, minute);
        }
    }

    private int sumOf(Clock[] row, int what) {
        int sum = 0;
        for (int i = 0; i < present; i++) {
            sum += row[i].reading(what);
        }
        return sum;
    }

    private int offOfAll(Clock[] row, int then) {
        int sum = 0;
        for (int i = 0; i < present; i++) {
            sum += Math.abs(offOf(row[i], then));
        }
        return sum;
    }

    private int trueClocks() {
        int trueOnes = 0;
        for (int i = 0; i < present; i++) {
            if (offOf(clocks[i], minute) == 0) {
                trueOnes++;
            }
        }
        return trueOnes;
    }

    private static final class Clock {
        private int gearA = FIRST_TEETH;
        private int gearB = FIRST_TEETH;
        private int swing = 0;
        private int chain = FULL_CHAIN;
        private int oil = FULL_OIL;
        private int bellows = FULL_BELLOWS;
        private boolean goes = true;
        private int shown = 0;
        private int rest = 0;
        private int shutFrom = NEVER;
        private int shutTill = 0;
        private int calls = 0;
        private int missed = 0;
        private int latestCalls = 0;

        private void copyFrom(Clock other) {
            gearA = other.gearA;
            gearB = other.gearB;
            swing = other.swing;
            chain = other.chain;
            oil = other.oil;
            bellows = other.bellows;
            goes = other.goes;
            shown = other.shown;
            rest = other.rest;
            shutFrom = other.shutFrom;
            shutTill = other.shutTill;
            calls = other.calls;
            missed = other.missed;
            latestCalls = other.latestCalls;
        }

        private void putHands(int time) {
            shown = time;
            rest = 0;
        }

        private void fitTrain(int a, int b, int pendulum) {
            gearA = a;
            gearB = b;
            swing = pendulum;
        }

        private int drawUp() {
            int more = FULL_CHAIN - chain;
            chain = FULL_CHAIN;
            goes = true;
            return more;
        }

        private int fillOil() {
            int more = FULL_OIL - oil;
            oil = FULL_OIL;
            return more;
        }

        private int patchBellows() {
            int more = FULL_BELLOWS - bellows;
            bellows = FULL_BELLOWS;
            return more;
        }

        private int nudge() {
            goes = !goes && chain != 0;
            return goes ? 1 : 0;
        }

        private int silence(int from, int till) {
            int before = shutFrom;
            shutFrom = from;
            shutTill = till;
            return before;
        }

        private int advance() {
            return advanceWith(gearA, gearB);
        }

        private int advanceWith(int a, int b) {
            if (b == 0) {
                return 0;
            }
            int oiled = TRUE_ADVANCE * a / b + swing;
            return oil < ENOUGH_OIL ? oiled - oiled / 10 : oiled;
        }

        private int truestGears() {
            int best = 0;
            int nearest = FARTHEST;
            for (int a = LEAST_TEETH; a <= MOST_TEETH; a++) {
                for (int b = LEAST_TEETH; b <= MOST_TEETH; b++) {
                    int distance = Math.abs(advanceWith(a, b) - TRUE_ADVANCE);
                    if (distance < nearest) {
                        nearest = distance;
                        best = 100 * a + b;
                    }
                }
            }
            return best;
        }

        private void runMinute(int number) {
            // A clock that stands has no calls in the latest minute either.
            latestCalls = 0;
            if (goes) {
                turn();
                wear(number);
            }
        }

        private void turn() {
            int turned = rest + advance();
            rest = turned % MINUTE_OF_REST;
            for (int left = turned / MINUTE_OF_REST; left > 0; left--) {
                shown = (shown + 1) % DIAL;
                if (!isShutAt(shown)) {
                    cuckoo(callsDueAt(shown));
                }
            }
        }

        private void wear(int number) {
            chain--;
            if (number % MINUTES_OF_OIL == 0 && oil > 0) {
                oil--;
            }
            if (chain <= 0) {
                goes = false;
            }
        }

        private static int callsDueAt(int time) {
            if (time == 0) {
                return 12;
            }
            if (time % HOUR == 0) {
                return time / HOUR;
            }
            return time % HALF_HOUR == 0 ? 1 : 0;
        }

        private void cuckoo(int due) {
            int done = Math.min(due, bellows);
            bellows -= done;
            calls += done;
            latestCalls += done;
            missed += due - done;
        }

        private boolean isShutAt(int time) {
            if (shutFrom == NEVER) {
                return false;
            }
            if (shutFrom < shutTill) {
                return time >= shutFrom && time < shutTill;
            }
            // Round behind 719, or at all times when both are the same.
            return time >= shutFrom || time < shutTill;
        }

        private int minutesToStand() {
            return goes ? chain : 0;
        }

        private int reading(int what) {
            switch (what) {
                case 0:
                    return shown;
                case 1:
                    return rest;
                case 2:
                    return chain;
                case 3:
                    return oil;
                case 4:
                    return bellows;
                case 5:
                    return goes ? 1 : 0;
                case 6:
                    return advance();
                case 7:
                    return calls;
                case 8:
                    return missed;
                case 9:
                    return latestCalls;
                default:
                    return isShutAt(shown) ? 1 : 0;
            }
        }

        private long mixInto(long start) {
            long d = start;
            d = d * 31L + gearA;
            d = d * 31L + gearB;
            d = d * 31L + swing;
            d = d * 31L + shutFrom;
            d = d * 31L + shutTill;
            for (int what = 0; what < READINGS; what++) {
                d = d * 31L + reading(what);
            }
            return d;
        }
    }
}
