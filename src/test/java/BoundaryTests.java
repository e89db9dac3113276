import java.math.BigInteger;
import java.util.ArrayList;
import java.util.List;
import java.util.concurrent.Callable;

/**
 * For each sentence of the document that names a boundary case a test of its own, under the
 * sentence's words. Each test makes shops of its own and uses each of them for at most 512 calls.
 */
public final class BoundaryTests {
    private static final Class<?> ARGUMENT = IllegalArgumentException.class;
    private static final Class<?> STATE = IllegalStateException.class;
    private static final Class<?> INDEX = IndexOutOfBoundsException.class;
    private static final int LEAST = Integer.MIN_VALUE;
    private static final int GREATEST = Integer.MAX_VALUE;

    private static final List<String> broken = new ArrayList<>();
    private static int sentences = 0;
    private static String sentence = "";

    private interface Check {
        void run();
    }

    public static void main(String[] args) {
        aCallOfAnObject();
        timeAndDial();
        aClockAtFirst();
        boundsOfAClock();
        advance();
        calls();
        bellows();
        shutOffTimes();
        aMinute();
        refusedCalls();
        newObject();
        come();
        gear();
        set();
        wind();
        mend();
        shut();
        clock();
        off();
        count();
        pass();
        next();
        stands();
        loudest();
        foresee();
        advise();
        mean();
        digest();
        System.out.println("BoundaryTests: " + (sentences - broken.size()) + " of " + sentences + " sentences hold");
        if (!broken.isEmpty()) {
            System.exit(1);
        }
    }

    // ---- how a sentence is tested

    private static void holds(String words, Check check) {
        sentence = words;
        sentences++;
        try {
            check.run();
        } catch (RuntimeException e) {
            breaks("threw " + e);
        }
    }

    private static void breaks(String how) {
        if (!broken.contains(sentence)) {
            broken.add(sentence);
            System.out.println("broken: \"" + sentence + "\": " + how);
        }
    }

    private static void due(String call, long got, long want) {
        if (got != want) {
            breaks(call + " answered " + got + ", due is " + want);
        }
    }

    private static void dueDouble(String call, double got, double want) {
        if (Double.compare(got, want) != 0) {
            breaks(call + " answered " + got + ", due is " + want);
        }
    }

    /** The call throws exactly this class. */
    private static void dueThrow(Class<?> want, Callable<?> call) {
        Class<?> got = null;
        try {
            call.call();
        } catch (Exception e) {
            got = e.getClass();
        }
        if (got != want) {
            breaks("a call threw " + got + ", due is " + want);
        }
    }

    // ---- shops to begin with

    private static CuckooShop shopOf(int... shown) {
        CuckooShop shop = new CuckooShop();
        for (int time : shown) {
            shop.come(time);
        }
        return shop;
    }

    private static CuckooShop fullShop() {
        return shopOf(0, 1, 2, 3, 4, 5, 6, 7, 8, 9);
    }

    /** Its first clock has lost 1 of its oil in each of the minutes 0, 10, 20 .., and its chain is 600. */
    private static CuckooShop shopWithOil(int oil) {
        CuckooShop shop = shopOf(0);
        for (int lost = 0; lost < 100 - oil; lost++) {
            shop.pass(10);
            shop.wind(0);
        }
        return shop;
    }

    /** Its first clock has so few bellows; it has called as often as they are less than 60. */
    private static CuckooShop shopWithBellows(int bellows) {
        CuckooShop shop = shopOf(0);
        for (int left = 60; left > bellows; ) {
            int calls = Math.min(12, left - bellows);
            comeToShow(shop, 60 * calls % 720);
            left -= calls;
        }
        return shop;
    }

    /** Its first clock has so much of its chain left. */
    private static CuckooShop shopWithChain(int chain) {
        CuckooShop shop = shopOf(0);
        shop.pass(600 - chain);
        return shop;
    }

    /** Lets the first clock come to show a time in one minute; returns the calls in it. */
    private static int comeToShow(CuckooShop shop, int time) {
        shop.set(0, (time + 719) % 720);
        return shop.pass(1);
    }

    // ---- what it is

    private static void aCallOfAnObject() {
        holds("An object is used for at most 512 calls after it has been made", () -> {
            CuckooShop shop = fullShop();
            for (int call = 11; call < 512; call++) {
                shop.pass(720);
            }
            due("the 512th call, count(0)", shop.count(0), 501 * 720);
        });
        holds("An object is used for at most 512 calls: each of the 512 answers", () -> {
            CuckooShop shop = shopOf(0);
            for (int call = 1; call < 511; call += 2) {
                due("pass(720)", shop.pass(720), call == 1 ? 60 : 0);
                due("wind(0)", shop.wind(0), 600);
            }
            due("count(4), the 512th call", shop.count(4), 60);
        });
    }

    // ---- terms

    private static void timeAndDial() {
        holds("All numbers are whole, and / is cut towards 0.", () -> {
            CuckooShop shop = shopOf(0);
            due("900 * 31 / 29 is 962 and 2/29", shop.gear(0, 31, 29, 0), 962);
            due("900 * 29 / 31 is 841 and 29/31", shop.gear(0, 29, 31, 0), 841);
            due("900 * 20 / 27 is 666 and 18/27", shop.gear(0, 20, 27, -20), 646);
        });
        holds("Time is told in minutes, from 0.", () -> {
            CuckooShop shop = shopOf(0);
            due("count(0)", shop.count(0), 0);
            due("pass(1)", shop.pass(1), 0);
            due("count(0) behind it", shop.count(0), 1);
        });
        holds("A dial goes round in 720 minutes", () -> {
            CuckooShop shop = shopOf(719);
            shop.pass(1);
            due("what is shown behind 719", shop.clock(0, 0), 0);
            shop.set(0, 718);
            shop.pass(1);
            due("what is shown behind 718", shop.clock(0, 0), 719);
        });
        holds("the true time of the dial is the minute by the remainder of 720", () -> {
            CuckooShop shop = new CuckooShop();
            shop.pass(719);
            due("count(1) at 719", shop.count(1), 719);
            shop.pass(1);
            due("count(1) at 720", shop.count(1), 0);
            shop.pass(719);
            due("count(1) at 1439", shop.count(1), 719);
            shop.pass(1);
            due("count(1) at 1440", shop.count(1), 0);
            due("count(0) at 1440", shop.count(0), 1440);
        });
        holds("There are at most 10", () -> {
            CuckooShop shop = shopOf(0, 1, 2, 3, 4, 5, 6, 7, 8);
            due("the tenth", shop.come(9), 9);
            dueThrow(STATE, () -> shop.come(10));
            due("count(2)", shop.count(2), 10);
        });
        holds("numbered from 0 in the order of their coming", () -> {
            CuckooShop shop = new CuckooShop();
            for (int i = 0; i < 10; i++) {
                due("come", shop.come(700 - 50 * i), i);
            }
            for (int i = 0; i < 10; i++) {
                due("clock(" + i + ", 0)", shop.clock(i, 0), 700 - 50 * i);
            }
        });
    }

    private static void aClockAtFirst() {
        holds("two gears, a and b, of 20 to 40 teeth (30, at first), and a pendulum, -20 to 20 (0, at first)", () -> {
            CuckooShop shop = shopOf(0);
            due("its advance", shop.clock(0, 6), 900);
            due("digest", shop.digest(), digestOf(shop, 30, 30, 0, -1, 0));
        });
        holds("a chain, 0 to 600 (600, at first)", () -> due("clock(0, 2)", shopOf(0).clock(0, 2), 600));
        holds("oil, 0 to 100 (100, at first)", () -> due("clock(0, 3)", shopOf(0).clock(0, 3), 100));
        holds("bellows, 0 to 60 (60, at first)", () -> due("clock(0, 4)", shopOf(0).clock(0, 4), 60));
        holds("it goes (at first) or stands", () -> due("clock(0, 5)", shopOf(0).clock(0, 5), 1));
        holds("has a rest, 0 to 899 (0, at first)", () -> due("clock(0, 1)", shopOf(0).clock(0, 1), 0));
        holds("it may be shut off from one time of its dial to another one (not, at first)", () -> {
            for (int time = 0; time < 720; time++) {
                due("clock(0, 10) at " + time, shopOf(time).clock(0, 10), 0);
            }
            due("shut(0, 1, 2)", shopOf(0).shut(0, 1, 2), -1);
            due("the call at 0", shopOf(719).pass(1), 12);
        });
        holds("at first: a clock that comes later is new as well", () -> {
            CuckooShop shop = shopOf(719);
            shop.pass(720);
            shop.pass(5);
            shop.come(30);
            int[] due = {30, 0, 600, 100, 60, 1, 900, 0, 0, 0, 0};
            for (int what = 0; what < due.length; what++) {
                due("clock(1, " + what + ")", shop.clock(1, what), due[what]);
            }
        });
    }

    private static void boundsOfAClock() {
        holds("a chain, 0 to 600: it is not less than 0", () -> {
            CuckooShop shop = shopOf(0);
            shop.pass(600);
            due("clock(0, 2) behind 600 minutes", shop.clock(0, 2), 0);
            shop.pass(1);
            due("clock(0, 2) behind 601 minutes", shop.clock(0, 2), 0);
        });
        holds("bellows, 0 to 60: they are not less than 0", () -> {
            CuckooShop shop = shopWithBellows(1);
            due("clock(0, 4)", shop.clock(0, 4), 1);
            comeToShow(shop, 0);
            due("clock(0, 4) behind 12 calls that it had to do", shop.clock(0, 4), 0);
            comeToShow(shop, 30);
            due("clock(0, 4) behind one more", shop.clock(0, 4), 0);
        });
        holds("it shows a time, 0 to 719", () -> {
            CuckooShop shop = shopOf(717);
            shop.gear(0, 40, 20, 20);
            int[] shown = {719, 1, 3};
            for (int time : shown) {
                shop.pass(1);
                due("what a clock of 1820 shows", shop.clock(0, 0), time);
            }
        });
        holds("has a rest, 0 to 899: 899 is a rest", () -> {
            CuckooShop shop = shopOf(5);
            shop.gear(0, 30, 30, -1);
            shop.pass(1);
            due("the rest behind an advance of 899", shop.clock(0, 1), 899);
            due("what it shows", shop.clock(0, 0), 5);
        });
    }

    private static void advance() {
        holds("Advance: 900 * a / b + its pendulum: the least and the greatest", () -> {
            CuckooShop shop = shopOf(0);
            due("gear(0, 20, 40, -20)", shop.gear(0, 20, 40, -20), 430);
            due("gear(0, 40, 20, 20)", shop.gear(0, 40, 20, 20), 1820);
        });
        holds("with an oil of less than 20 a tenth of this less: not with 20", () -> {
            CuckooShop shop = shopWithOil(20);
            due("its oil", shop.clock(0, 3), 20);
            due("its advance", shop.clock(0, 6), 900);
        });
        holds("with an oil of less than 20 a tenth of this less: with 19", () -> {
            CuckooShop shop = shopWithOil(19);
            due("its oil", shop.clock(0, 3), 19);
            due("its advance", shop.clock(0, 6), 810);
        });
        holds("with an oil of less than 20 a tenth of this less: with 0", () -> {
            CuckooShop shop = shopWithOil(0);
            due("its oil", shop.clock(0, 3), 0);
            due("its advance", shop.clock(0, 6), 810);
        });
        holds("a tenth of this (cut) less", () -> {
            CuckooShop shop = shopWithOil(19);
            due("899 less 89", shop.gear(0, 30, 30, -1), 810);
            due("901 less 90", shop.gear(0, 30, 30, 1), 811);
            due("909 less 90", shop.gear(0, 30, 30, 9), 819);
            due("910 less 91", shop.gear(0, 30, 30, 10), 819);
            due("430 less 43", shop.gear(0, 20, 40, -20), 387);
            due("1820 less 182", shop.gear(0, 40, 20, 20), 1638);
        });
        holds("a tenth of this less: of the pendulum too", () -> {
            CuckooShop shop = shopWithOil(19);
            due("920 less 92", shop.gear(0, 30, 30, 20), 828);
            due("880 less 88", shop.gear(0, 30, 30, -20), 792);
        });
    }

    private static void calls() {
        holds("a time that can be divided by 60, it has to call as often as the hour: the time / 60", () -> {
            for (int hour = 1; hour < 12; hour++) {
                due("calls at " + 60 * hour, comeToShow(shopOf(0), 60 * hour), hour);
            }
        });
        holds("but 12 times at 0", () -> due("calls at 0", comeToShow(shopOf(0), 0), 12));
        holds("at another time that can be divided by 30 once", () -> {
            for (int hour = 0; hour < 12; hour++) {
                due("calls at " + (60 * hour + 30), comeToShow(shopOf(0), 60 * hour + 30), 1);
            }
        });
        holds("it has to call at no time that can't be divided by 30", () -> {
            for (int time = 0; time < 720; time++) {
                if (time % 30 != 0) {
                    due("calls at " + time, comeToShow(shopOf(0), time), 0);
                }
            }
        });
        holds("As it comes to show a time: not as long as it shows it", () -> {
            CuckooShop shop = shopOf(59);
            shop.gear(0, 20, 40, 0);
            due("calls as it shows 59 still", shop.pass(1), 0);
            due("calls as it comes to show 60", shop.pass(1), 1);
            due("calls as it shows 60 still", shop.pass(1), 0);
            due("what it shows", shop.clock(0, 0), 60);
        });
        holds("As it comes to show a time: not by its coming and not by being set", () -> {
            CuckooShop shop = shopOf(0);
            due("calls of a new one", shop.clock(0, 7), 0);
            shop.set(0, 60);
            due("calls of one that is set", shop.clock(0, 7), 0);
            due("calls behind it", shop.pass(29), 0);
        });
        holds("it shows a minute more, and calls: also at the first of two times of one minute", () -> {
            CuckooShop shop = shopOf(29);
            shop.gear(0, 40, 20, 0);
            due("calls as it shows 30 and 31", shop.pass(1), 1);
            due("what it shows", shop.clock(0, 0), 31);
            due("calls in the latest minute", shop.clock(0, 9), 1);
        });
    }

    private static void bellows() {
        holds("not more often than its bellows are: as many as it has to call", () -> {
            CuckooShop shop = shopWithBellows(12);
            due("calls", comeToShow(shop, 0), 12);
            due("bellows", shop.clock(0, 4), 0);
            due("missed", shop.clock(0, 8), 0);
        });
        holds("not more often than its bellows are: one less than it has to call", () -> {
            CuckooShop shop = shopWithBellows(11);
            due("calls", comeToShow(shop, 0), 11);
            due("bellows", shop.clock(0, 4), 0);
        });
        holds("these are as much less then: with one more than it has to call", () -> {
            CuckooShop shop = shopWithBellows(13);
            due("calls", comeToShow(shop, 0), 12);
            due("bellows", shop.clock(0, 4), 1);
            due("missed", shop.clock(0, 8), 0);
        });
        holds("not more often than its bellows are: without bellows", () -> {
            CuckooShop shop = shopWithBellows(0);
            due("calls at 0", comeToShow(shop, 0), 0);
            due("calls at 30", comeToShow(shop, 30), 0);
            due("calls in all", shop.clock(0, 7), 60);
        });
        holds("calls that are left are missed", () -> {
            CuckooShop shop = shopWithBellows(1);
            comeToShow(shop, 0);
            due("missed, 12 with bellows of 1", shop.clock(0, 8), 11);
            comeToShow(shop, 30);
            due("missed, 1 more without bellows", shop.clock(0, 8), 12);
        });
        holds("If it is shut off at this time, it does not call.", () -> {
            CuckooShop shop = shopOf(0);
            shop.shut(0, 0, 0);
            due("calls", comeToShow(shop, 0), 0);
            due("calls in all", shop.clock(0, 7), 0);
        });
        holds("If it is shut off at this time: its bellows stay, and nothing is missed", () -> {
            CuckooShop shop = shopWithBellows(1);
            shop.shut(0, 0, 0);
            comeToShow(shop, 0);
            due("bellows", shop.clock(0, 4), 1);
            due("missed", shop.clock(0, 8), 0);
        });
        holds("If it is shut off at this time: at that one of two times of one minute alone", () -> {
            CuckooShop shop = shopOf(29);
            shop.gear(0, 40, 20, 0);
            shop.shut(0, 31, 32);
            due("calls as it shows 30 and 31", shop.pass(1), 1);
            due("it is shut off then", shop.clock(0, 10), 1);
            shop.set(0, 29);
            shop.shut(0, 30, 31);
            due("calls, shut off at 30", shop.pass(1), 0);
            due("it is not shut off then", shop.clock(0, 10), 0);
        });
    }

    /** Whether the first clock is shut off: 1 or 0 at each of the times, by what it tells and what it calls. */
    private static void dueShut(int from, int till, int time, int want) {
        CuckooShop shop = shopOf(0);
        shop.shut(0, from, till);
        int calls = comeToShow(shop, time);
        due("shut off from " + from + " to " + till + ", at " + time, shop.clock(0, 10), want);
        if (time % 30 == 0) {
            due("whether it calls at " + time, calls > 0 ? 0 : 1, want);
        }
    }

    private static void shutOffTimes() {
        holds("It is shut off at a time, if this is one of those from the first time on", () -> {
            dueShut(60, 90, 59, 0);
            dueShut(60, 90, 60, 1);
            dueShut(60, 90, 61, 1);
            dueShut(0, 1, 0, 1);
            dueShut(0, 1, 719, 0);
        });
        holds("up to the one before the other time", () -> {
            dueShut(59, 90, 60, 1);
            dueShut(59, 90, 89, 1);
            dueShut(59, 90, 90, 0);
            dueShut(59, 91, 90, 1);
            dueShut(0, 719, 718, 1);
            dueShut(0, 719, 719, 0);
        });
        holds("round", () -> {
            dueShut(700, 60, 699, 0);
            dueShut(700, 60, 700, 1);
            dueShut(700, 60, 719, 1);
            dueShut(700, 60, 0, 1);
            dueShut(700, 60, 30, 1);
            dueShut(700, 60, 59, 1);
            dueShut(700, 60, 60, 0);
            dueShut(700, 60, 690, 0);
        });
        holds("round: the other time is 0", () -> {
            dueShut(719, 0, 718, 0);
            dueShut(719, 0, 719, 1);
            dueShut(719, 0, 0, 0);
            dueShut(1, 0, 0, 0);
            dueShut(1, 0, 1, 1);
            dueShut(1, 0, 690, 1);
        });
        holds("round: at all times but one", () -> {
            dueShut(31, 30, 29, 1);
            dueShut(31, 30, 30, 0);
            dueShut(31, 30, 31, 1);
            dueShut(31, 30, 0, 1);
        });
        holds("at one time alone", () -> {
            dueShut(30, 31, 29, 0);
            dueShut(30, 31, 30, 1);
            dueShut(30, 31, 31, 0);
        });
        holds("with both the same at all times", () -> {
            int[] both = {0, 1, 360, 719};
            for (int same : both) {
                for (int time = 0; time < 720; time++) {
                    dueShut(same, same, time, 1);
                }
            }
        });
    }

    private static void aMinute() {
        holds("clock by clock, for those that go", () -> {
            CuckooShop shop = shopOf(29, 29);
            shop.gear(0, 20, 40, 0);
            shop.pass(1);
            shop.mend(0, 2);
            due("calls of the other one in the minute before", shop.clock(1, 9), 1);
            shop.pass(11);
            int[] stood = {29, 450, 599, 99, 60, 0, 450, 0, 0, 0, 0};
            for (int what = 0; what < stood.length; what++) {
                due("one that stands, clock(0, " + what + ")", shop.clock(0, what), stood[what]);
            }
            due("the one that goes", shop.clock(1, 0), 41);
        });
        holds("Its advance comes to its rest", () -> {
            CuckooShop shop = shopOf(0);
            shop.gear(0, 30, 30, -20);
            shop.pass(1);
            due("0 and 880", shop.clock(0, 1), 880);
            shop.gear(0, 20, 40, -20);
            shop.pass(1);
            due("880 and 430, less 900", shop.clock(0, 1), 410);
        });
        holds("as long as this is 900 or more: 899 and 900", () -> {
            CuckooShop shop = shopOf(0, 0);
            shop.gear(0, 30, 30, -1);
            shop.pass(1);
            due("what one of 899 shows", shop.clock(0, 0), 0);
            due("its rest", shop.clock(0, 1), 899);
            due("what one of 900 shows", shop.clock(1, 0), 1);
            due("its rest", shop.clock(1, 1), 0);
        });
        holds("as long as this is 900 or more: 1799 and 1800", () -> {
            CuckooShop shop = shopOf(0, 0);
            shop.gear(0, 40, 20, -1);
            shop.gear(1, 40, 20, 0);
            shop.pass(1);
            due("what one of 1799 shows", shop.clock(0, 0), 1);
            due("its rest", shop.clock(0, 1), 899);
            due("what one of 1800 shows", shop.clock(1, 0), 2);
            due("its rest", shop.clock(1, 1), 0);
        });
        holds("as long as this is 900 or more: 899 and 1820 are three minutes more", () -> {
            CuckooShop shop = shopOf(10);
            shop.gear(0, 30, 30, -1);
            shop.pass(1);
            shop.gear(0, 40, 20, 20);
            shop.pass(1);
            due("what it shows", shop.clock(0, 0), 13);
            due("its rest", shop.clock(0, 1), 19);
        });
        holds("it shows a minute more (0 behind 719)", () -> {
            CuckooShop shop = shopOf(719, 718);
            shop.gear(1, 40, 20, 0);
            shop.pass(1);
            due("behind 719", shop.clock(0, 0), 0);
            due("two behind 718", shop.clock(1, 0), 0);
        });
        holds("Its chain is 1 less", () -> {
            CuckooShop shop = shopOf(0);
            shop.gear(0, 20, 40, 0);
            shop.pass(1);
            due("its chain, though it shows the same", shop.clock(0, 2), 599);
        });
        holds("in minutes whose number can be divided by 10 its oil is 1 less: in the minute 0", () -> {
            CuckooShop shop = shopOf(0);
            shop.pass(1);
            due("its oil", shop.clock(0, 3), 99);
        });
        holds("in minutes whose number can be divided by 10 its oil is 1 less: 9, 10 and 11", () -> {
            CuckooShop shop = new CuckooShop();
            shop.pass(9);
            shop.come(0);
            shop.pass(1);
            due("its oil behind the minute 9", shop.clock(0, 3), 100);
            shop.pass(1);
            due("its oil behind the minute 10", shop.clock(0, 3), 99);
            shop.pass(9);
            due("its oil behind the minute 19", shop.clock(0, 3), 99);
            shop.pass(1);
            due("its oil behind the minute 20", shop.clock(0, 3), 98);
        });
        holds("(at least 0)", () -> {
            CuckooShop shop = shopWithOil(0);
            due("its oil", shop.clock(0, 3), 0);
            shop.pass(11);
            due("its oil behind two more of these minutes", shop.clock(0, 3), 0);
        });
        holds("its oil is 1 less behind its advance", () -> {
            CuckooShop shop = shopWithOil(20);
            shop.set(0, 100);
            shop.pass(1);
            due("its oil", shop.clock(0, 3), 19);
            due("what it shows", shop.clock(0, 0), 101);
            due("its rest", shop.clock(0, 1), 0);
            shop.pass(1);
            due("what it shows a minute later", shop.clock(0, 0), 101);
            due("its rest then", shop.clock(0, 1), 810);
        });
        holds("With a chain of 0 it stands: not with 1", () -> {
            CuckooShop shop = shopWithChain(1);
            due("its chain", shop.clock(0, 2), 1);
            due("it goes", shop.clock(0, 5), 1);
        });
        holds("With a chain of 0 it stands", () -> {
            CuckooShop shop = shopWithChain(1);
            due("calls in the last minute of its chain", shop.pass(1), 5);
            due("its chain", shop.clock(0, 2), 0);
            due("it goes", shop.clock(0, 5), 0);
            due("what it shows", shop.clock(0, 0), 600);
            shop.pass(60);
            due("what it shows an hour later", shop.clock(0, 0), 600);
        });
        holds("Then the minute is 1 greater.", () -> {
            CuckooShop shop = shopWithChain(0);
            shop.pass(1);
            due("the minute, though all stand", shop.count(0), 601);
            CuckooShop empty = new CuckooShop();
            empty.pass(1);
            due("the minute, though there are none", empty.count(0), 1);
        });
    }

    // ---- a method that throws

    /** A shop of n clocks, each of them in another state. */
    private static CuckooShop livelyShop(int n) {
        CuckooShop shop = new CuckooShop();
        for (int i = 0; i < n; i++) {
            shop.come(71 * i);
            shop.gear(i, 20 + 2 * i, 40 - i, 3 * i - 10);
            shop.pass(37);
        }
        for (int i = 0; i < n; i += 3) {
            shop.shut(i, 100 * i % 720, 50);
            shop.mend(i, 2);
        }
        return shop;
    }

    private static void sameBehind(int n, Class<?> want, Refused call) {
        CuckooShop shop = livelyShop(n);
        CuckooShop other = livelyShop(n);
        dueThrow(want, () -> call.on(shop));
        due("digest behind it", shop.digest(), other.digest());
        due("pass(720) behind it", shop.pass(720), other.pass(720));
        due("digest behind these minutes", shop.digest(), other.digest());
    }

    private interface Refused {
        int on(CuckooShop shop);
    }

    private static void refusedCalls() {
        holds("A method that throws an exception changes nothing: come", () -> {
            sameBehind(4, ARGUMENT, s -> s.come(720));
            sameBehind(10, STATE, s -> s.come(0));
        });
        holds("A method that throws an exception changes nothing: gear", () -> {
            sameBehind(4, INDEX, s -> s.gear(4, 25, 35, 1));
            sameBehind(4, ARGUMENT, s -> s.gear(1, 41, 35, 1));
            sameBehind(4, ARGUMENT, s -> s.gear(1, 25, 41, 1));
            sameBehind(4, ARGUMENT, s -> s.gear(1, 25, 35, 21));
        });
        holds("A method that throws an exception changes nothing: set, wind, mend", () -> {
            sameBehind(4, INDEX, s -> s.set(4, 5));
            sameBehind(4, ARGUMENT, s -> s.set(1, 720));
            sameBehind(4, INDEX, s -> s.wind(4));
            sameBehind(4, INDEX, s -> s.mend(4, 0));
            sameBehind(4, ARGUMENT, s -> s.mend(0, 3));
        });
        holds("A method that throws an exception changes nothing: shut", () -> {
            sameBehind(4, INDEX, s -> s.shut(4, 5, 6));
            sameBehind(4, ARGUMENT, s -> s.shut(0, 720, 6));
            sameBehind(4, ARGUMENT, s -> s.shut(0, 5, 720));
            sameBehind(4, ARGUMENT, s -> s.shut(0, -1, 6));
        });
        holds("A method that throws an exception changes nothing: pass", () -> {
            sameBehind(4, ARGUMENT, s -> s.pass(721));
            sameBehind(4, ARGUMENT, s -> s.pass(0));
        });
        holds("A method that throws an exception changes nothing: what only tells", () -> {
            sameBehind(4, INDEX, s -> s.clock(4, 0));
            sameBehind(4, INDEX, s -> s.clock(0, 11));
            sameBehind(4, INDEX, s -> s.off(4));
            sameBehind(4, INDEX, s -> s.count(8));
            sameBehind(4, INDEX, s -> s.next(4));
            sameBehind(4, INDEX, s -> s.stands(4));
            sameBehind(4, ARGUMENT, s -> s.loudest(721));
            sameBehind(4, ARGUMENT, s -> s.foresee(721, 0));
            sameBehind(4, INDEX, s -> s.foresee(720, 4));
            sameBehind(4, INDEX, s -> s.advise(4));
        });
        holds("If several exceptions apply, the one that is named first is thrown: come", () ->
            dueThrow(ARGUMENT, () -> fullShop().come(720)));
        holds("If several exceptions apply, the one that is named first is thrown: gear", () ->
            dueThrow(INDEX, () -> shopOf(0).gear(1, 19, 41, 21)));
        holds("If several exceptions apply, the one that is named first is thrown: set", () ->
            dueThrow(INDEX, () -> shopOf(0).set(1, 720)));
        holds("If several exceptions apply, the one that is named first is thrown: mend", () ->
            dueThrow(INDEX, () -> shopOf(0).mend(1, 3)));
        holds("If several exceptions apply, the one that is named first is thrown: shut", () -> {
            dueThrow(INDEX, () -> shopOf(0).shut(1, 720, 0));
            dueThrow(INDEX, () -> shopOf(0).shut(1, 0, 720));
            dueThrow(INDEX, () -> shopOf(0).shut(1, -1, 1));
        });
        holds("If several exceptions apply, the one that is named first is thrown: foresee", () -> {
            dueThrow(ARGUMENT, () -> shopOf(0).foresee(0, 4));
            dueThrow(ARGUMENT, () -> shopOf(0).foresee(721, -1));
        });
    }

    private interface OfAClock {
        int on(CuckooShop shop, int clock);
    }

    /** Ahead of the first clock, behind the last one, in an empty, a small and a full shop. */
    private static void noSuchClock(OfAClock call) {
        int[] none = {-1, 0, 1, 9, 10, LEAST, GREATEST};
        for (int clock : none) {
            dueThrow(INDEX, () -> call.on(new CuckooShop(), clock));
        }
        int[] notOne = {-1, 1, 2, 9, 10, LEAST, GREATEST};
        for (int clock : notOne) {
            dueThrow(INDEX, () -> call.on(shopOf(0), clock));
        }
        int[] notTen = {-1, 10, 11, LEAST, GREATEST};
        for (int clock : notTen) {
            dueThrow(INDEX, () -> call.on(fullShop(), clock));
        }
        dueThrow(null, () -> call.on(shopOf(0), 0));
        dueThrow(null, () -> call.on(fullShop(), 0));
        dueThrow(null, () -> call.on(fullShop(), 9));
    }

    /** None just past the bounds nor far out; the bounds themselves are fine. */
    private static void dueBounds(Class<?> want, int least, int most, Bounded call) {
        int[] outside = {least - 1, most + 1, LEAST, GREATEST};
        for (int x : outside) {
            dueThrow(want, () -> call.on(x));
        }
        int[] inside = {least, most};
        for (int x : inside) {
            dueThrow(null, () -> call.on(x));
        }
    }

    private interface Bounded {
        int on(int x);
    }

    // ---- promise 1

    private static void newObject() {
        holds("Creates a shop without clocks, in the minute 0.", () -> {
            CuckooShop shop = new CuckooShop();
            for (int what = 0; what < 8; what++) {
                due("count(" + what + ")", shop.count(what), 0);
            }
            dueThrow(INDEX, () -> shop.clock(0, 0));
        });
        holds("a shop without clocks: minutes go by in it, and it is silent", () -> {
            CuckooShop shop = new CuckooShop();
            due("pass(720)", shop.pass(720), 0);
            due("count(0)", shop.count(0), 720);
            due("loudest(720)", shop.loudest(720), -1);
            for (int what = 0; what < 4; what++) {
                due("foresee(720, " + what + ")", shop.foresee(720, what), 0);
            }
        });
        holds("a shop of its own: nothing of another one is in it", () -> {
            CuckooShop first = livelyShop(10);
            CuckooShop second = new CuckooShop();
            due("count(2)", second.count(2), 0);
            due("come(0)", second.come(0), 0);
            due("digest", second.digest(), shopOf(0).digest());
            due("digest of the first", first.digest(), livelyShop(10).digest());
        });
    }

    // ---- promise 2

    private static void come() {
        holds("come: Throws IllegalArgumentException if shown is not 0 to 719", () ->
            dueBounds(ARGUMENT, 0, 719, x -> shopOf(5).come(x)));
        holds("come: the time that a new clock shows", () -> {
            due("come(0)", shopOf(0).clock(0, 0), 0);
            due("come(719)", shopOf(719).clock(0, 0), 719);
        });
        holds("come: Throws IllegalStateException if there are 10", () -> {
            CuckooShop shop = fullShop();
            dueThrow(STATE, () -> shop.come(0));
            dueThrow(STATE, () -> shop.come(719));
        });
        holds("come: Returns its number: to the tenth, also behind a refused call", () -> {
            CuckooShop shop = shopOf(0, 1, 2, 3, 4, 5, 6, 7, 8);
            dueThrow(ARGUMENT, () -> shop.come(-1));
            due("come(719)", shop.come(719), 9);
        });
    }

    // ---- promise 3

    private static void gear() {
        holds("gear: Throws IndexOutOfBoundsException if there is no such clock", () ->
            noSuchClock((s, i) -> s.gear(i, 30, 30, 0)));
        holds("gear: Throws IllegalArgumentException if a is not 20 to 40", () ->
            dueBounds(ARGUMENT, 20, 40, x -> shopOf(0).gear(0, x, 30, 0)));
        holds("gear: Throws IllegalArgumentException if b is not 20 to 40", () -> {
            dueBounds(ARGUMENT, 20, 40, x -> shopOf(0).gear(0, 30, x, 0));
            dueThrow(ARGUMENT, () -> shopOf(0).gear(0, 30, 0, 0));
        });
        holds("gear: Throws IllegalArgumentException if swing is not -20 to 20", () ->
            dueBounds(ARGUMENT, -20, 20, x -> shopOf(0).gear(0, 30, 30, x)));
        holds("gear: Returns its advance then.", () -> {
            CuckooShop shop = shopOf(0, 0);
            due("gear(1, 20, 20, 20)", shop.gear(1, 20, 20, 20), 920);
            due("gear(1, 40, 40, -20)", shop.gear(1, 40, 40, -20), 880);
            due("its advance", shop.clock(1, 6), 880);
            due("the other one's", shop.clock(0, 6), 900);
        });
        holds("gear: its gear a from now on: its rest stays", () -> {
            CuckooShop shop = shopOf(0);
            shop.gear(0, 30, 30, -1);
            shop.pass(1);
            shop.gear(0, 20, 40, -20);
            due("its rest", shop.clock(0, 1), 899);
        });
        holds("gear: of one that stands too", () -> {
            CuckooShop shop = shopWithChain(0);
            due("gear(0, 40, 30, 5)", shop.gear(0, 40, 30, 5), 1205);
            due("it goes", shop.clock(0, 5), 0);
        });
    }

    // ---- promise 4

    private static void set() {
        holds("set: Throws IndexOutOfBoundsException if there is no such clock", () ->
            noSuchClock((s, i) -> s.set(i, 0)));
        holds("set: Throws IllegalArgumentException if shown is not 0 to 719", () ->
            dueBounds(ARGUMENT, 0, 719, x -> shopOf(5).set(0, x)));
        holds("set: the time that it shows from now on", () -> {
            CuckooShop shop = shopOf(5, 5);
            shop.set(0, 0);
            due("clock(0, 0)", shop.clock(0, 0), 0);
            shop.set(0, 719);
            due("clock(0, 0)", shop.clock(0, 0), 719);
            due("clock(1, 0)", shop.clock(1, 0), 5);
        });
        holds("set: its rest is 0", () -> {
            CuckooShop shop = shopOf(0);
            shop.gear(0, 30, 30, -1);
            shop.pass(1);
            shop.set(0, 0);
            due("its rest, set to the time that it shows", shop.clock(0, 1), 0);
        });
        holds("set: Returns by how many minutes it was off ahead of that, as off() tells it.", () -> {
            CuckooShop shop = shopOf(359);
            due("set at 359", shop.set(0, 360), 359);
            due("set at 360", shop.set(0, 361), -360);
            due("set at 361", shop.set(0, 0), -359);
            due("set at 0", shop.set(0, 719), 0);
            due("set at 719", shop.set(0, 719), -1);
        });
        holds("set: does not wind it, nor make it go", () -> {
            CuckooShop shop = shopWithChain(0);
            shop.set(0, 719);
            due("it goes", shop.clock(0, 5), 0);
            due("calls", shop.pass(1), 0);
            due("what it shows", shop.clock(0, 0), 719);
        });
    }

    // ---- promise 5

    private static void wind() {
        holds("wind: Throws IndexOutOfBoundsException if there is no such clock", () ->
            noSuchClock((s, i) -> s.wind(i)));
        holds("wind: Returns by how much its chain is more: 0, if it is full", () -> {
            CuckooShop shop = shopOf(0);
            due("wind(0)", shop.wind(0), 0);
            due("its chain", shop.clock(0, 2), 600);
        });
        holds("wind: Returns by how much its chain is more: 600, if it is 0", () -> {
            CuckooShop shop = shopWithChain(0);
            due("wind(0)", shop.wind(0), 600);
            due("wind(0) again", shop.wind(0), 0);
        });
        holds("wind: Returns by how much its chain is more: 1 and 599", () -> {
            due("wind of 599", shopWithChain(599).wind(0), 1);
            due("wind of 1", shopWithChain(1).wind(0), 599);
        });
        holds("wind: its chain is 600", () -> {
            CuckooShop shop = shopOf(0, 0);
            shop.pass(600);
            shop.wind(0);
            due("its chain", shop.clock(0, 2), 600);
            due("the other one's", shop.clock(1, 2), 0);
        });
        holds("wind: and it goes: behind a chain of 0", () -> {
            CuckooShop shop = shopWithChain(0);
            shop.wind(0);
            due("it goes", shop.clock(0, 5), 1);
            shop.pass(1);
            due("what it shows", shop.clock(0, 0), 601);
        });
        holds("wind: and it goes: one that stands with a full chain", () -> {
            CuckooShop shop = shopOf(0);
            shop.mend(0, 2);
            due("wind(0)", shop.wind(0), 0);
            due("it goes", shop.clock(0, 5), 1);
        });
    }

    // ---- promise 6

    private static void mend() {
        holds("mend: Throws IndexOutOfBoundsException if there is no such clock", () -> {
            noSuchClock((s, i) -> s.mend(i, 0));
            noSuchClock((s, i) -> s.mend(i, 2));
        });
        holds("mend: Throws IllegalArgumentException if what is not 0 to 2", () ->
            dueBounds(ARGUMENT, 0, 2, x -> shopOf(0).mend(0, x)));
        holds("mend: 0: its oil is 100: with an oil of 100, of 99 and of 0", () -> {
            CuckooShop shop = shopOf(0);
            due("mend(0, 0) of 100", shop.mend(0, 0), 0);
            shop.pass(1);
            due("mend(0, 0) of 99", shop.mend(0, 0), 1);
            CuckooShop dry = shopWithOil(0);
            due("mend(0, 0) of 0", dry.mend(0, 0), 100);
            due("its oil", dry.clock(0, 3), 100);
            due("its advance", dry.clock(0, 6), 900);
        });
        holds("mend: 1: its bellows are 60: with bellows of 60, of 59 and of 0", () -> {
            CuckooShop shop = shopOf(29);
            due("mend(0, 1) of 60", shop.mend(0, 1), 0);
            shop.pass(1);
            due("mend(0, 1) of 59", shop.mend(0, 1), 1);
            CuckooShop torn = shopWithBellows(0);
            due("mend(0, 1) of 0", torn.mend(0, 1), 60);
            due("its bellows", torn.clock(0, 4), 60);
        });
        holds("mend: 2: it stands, if it goes", () -> {
            CuckooShop shop = shopOf(0, 0);
            due("mend(0, 2)", shop.mend(0, 2), 0);
            due("it goes", shop.clock(0, 5), 0);
            due("the other one goes", shop.clock(1, 5), 1);
        });
        holds("mend: 2: or goes, if it stands, and its chain is not 0: with a chain of 1", () -> {
            CuckooShop shop = shopWithChain(1);
            due("mend(0, 2)", shop.mend(0, 2), 0);
            due("mend(0, 2) again", shop.mend(0, 2), 1);
            due("it goes", shop.clock(0, 5), 1);
            due("its chain", shop.clock(0, 2), 1);
        });
        holds("mend: 2: or goes, if it stands, and its chain is not 0: with a chain of 0", () -> {
            CuckooShop shop = shopWithChain(0);
            due("mend(0, 2)", shop.mend(0, 2), 0);
            due("it goes", shop.clock(0, 5), 0);
            due("mend(0, 2) again", shop.mend(0, 2), 0);
        });
        holds("mend: oil and bellows of one that stands: it stands still", () -> {
            CuckooShop shop = shopWithChain(0);
            due("mend(0, 0)", shop.mend(0, 0), 60);
            due("mend(0, 1)", shop.mend(0, 1), 60);
            due("it goes", shop.clock(0, 5), 0);
        });
    }

    // ---- promise 7

    private static void shut() {
        holds("shut: Throws IndexOutOfBoundsException if there is no such clock", () -> {
            noSuchClock((s, i) -> s.shut(i, 0, 0));
            noSuchClock((s, i) -> s.shut(i, -1, 0));
        });
        holds("shut: Throws IllegalArgumentException if from is not -1 to 719", () ->
            dueBounds(ARGUMENT, -1, 719, x -> shopOf(0).shut(0, x, 0)));
        holds("shut: Throws IllegalArgumentException if till is not 0 to 719", () -> {
            dueBounds(ARGUMENT, 0, 719, x -> shopOf(0).shut(0, 5, x));
            dueThrow(ARGUMENT, () -> shopOf(0).shut(0, -1, -1));
        });
        holds("shut: Throws IllegalArgumentException if from is -1 and till is not 0", () -> {
            dueThrow(ARGUMENT, () -> shopOf(0).shut(0, -1, 1));
            dueThrow(ARGUMENT, () -> shopOf(0).shut(0, -1, 719));
            dueThrow(null, () -> shopOf(0).shut(0, -1, 0));
        });
        holds("shut: -1 for not at all", () -> {
            CuckooShop shop = shopOf(29);
            shop.shut(0, 0, 0);
            shop.shut(0, -1, 0);
            due("clock(0, 10)", shop.clock(0, 10), 0);
            due("calls at 30", shop.pass(1), 1);
        });
        holds("shut: Returns the first time from which it was shut off, -1 if it was not.", () -> {
            CuckooShop shop = shopOf(0, 0);
            due("at first", shop.shut(0, 0, 719), -1);
            due("from 0", shop.shut(0, 719, 0), 0);
            due("from 719", shop.shut(0, -1, 0), 719);
            due("not at all", shop.shut(0, -1, 0), -1);
            due("the other one", shop.shut(1, 3, 3), -1);
            due("at all times, from 3", shop.shut(1, 4, 4), 3);
        });
    }

    // ---- promise 8

    private static void clock() {
        holds("clock: Throws IndexOutOfBoundsException if there is no such clock", () -> {
            noSuchClock((s, i) -> s.clock(i, 0));
            noSuchClock((s, i) -> s.clock(i, 10));
        });
        holds("clock: Throws IndexOutOfBoundsException if what is not 0 to 10", () ->
            dueBounds(INDEX, 0, 10, x -> shopOf(0).clock(0, x)));
        holds("clock: 9 calls in the latest minute: in that one alone", () -> {
            CuckooShop shop = shopOf(719);
            due("clock(0, 9) ahead of the first minute", shop.clock(0, 9), 0);
            shop.pass(1);
            due("clock(0, 9)", shop.clock(0, 9), 12);
            shop.pass(1);
            due("clock(0, 9) a minute later", shop.clock(0, 9), 0);
            shop.pass(29);
            due("clock(0, 9) at 30", shop.clock(0, 9), 1);
        });
        holds("clock: 9 calls in the latest minute: until the next one is over, whatever is done", () -> {
            CuckooShop shop = shopOf(719);
            shop.pass(1);
            shop.set(0, 100);
            shop.mend(0, 1);
            shop.mend(0, 2);
            due("clock(0, 9)", shop.clock(0, 9), 12);
            shop.pass(1);
            due("clock(0, 9) behind a minute in which it stood", shop.clock(0, 9), 0);
        });
        holds("clock: 7 calls in all, 8 calls that were missed in all: mending leaves them", () -> {
            CuckooShop shop = shopWithBellows(5);
            comeToShow(shop, 0);
            shop.mend(0, 1);
            comeToShow(shop, 60);
            due("clock(0, 7)", shop.clock(0, 7), 61);
            due("clock(0, 8)", shop.clock(0, 8), 7);
        });
        holds("clock: 10 1 if it is shut off at the time that it shows, else 0", () -> {
            CuckooShop shop = shopOf(100);
            shop.shut(0, 101, 100);
            due("at 100", shop.clock(0, 10), 0);
            shop.set(0, 99);
            due("at 99", shop.clock(0, 10), 1);
            shop.set(0, 101);
            due("at 101", shop.clock(0, 10), 1);
        });
    }

    // ---- promise 9

    private static void off() {
        holds("off: Throws IndexOutOfBoundsException if there is no such clock", () ->
            noSuchClock((s, i) -> s.off(i)));
        holds("off: round: -360 to 359", () -> {
            due("off of 359", shopOf(359).off(0), 359);
            due("off of 360", shopOf(360).off(0), -360);
            due("off of 361", shopOf(361).off(0), -359);
            due("off of 719", shopOf(719).off(0), -1);
            due("off of 0", shopOf(0).off(0), 0);
            due("off of 1", shopOf(1).off(0), 1);
        });
        holds("off: round: each time of the dial at the minute 719", () -> {
            for (int time = 0; time < 720; time++) {
                CuckooShop shop = new CuckooShop();
                shop.pass(719);
                shop.come(time);
                due("off of " + time, shop.off(0), time < 359 ? time + 1 : time - 719);
            }
        });
        holds("off: more than the true time of the dial: behind a whole round", () -> {
            CuckooShop shop = new CuckooShop();
            shop.pass(720);
            shop.pass(10);
            shop.come(10);
            shop.come(9);
            due("off of 10 at 730", shop.off(0), 0);
            due("off of 9 at 730", shop.off(1), -1);
        });
    }

    // ---- promise 10

    private static void count() {
        holds("count: Throws IndexOutOfBoundsException if what is not 0 to 7", () -> {
            dueBounds(INDEX, 0, 7, x -> shopOf(0).count(x));
            dueBounds(INDEX, 0, 7, x -> new CuckooShop().count(x));
        });
        holds("count: 0 the minute, 1 the true time of the dial: at 720", () -> {
            CuckooShop shop = new CuckooShop();
            shop.pass(720);
            due("count(0)", shop.count(0), 720);
            due("count(1)", shop.count(1), 0);
        });
        holds("count: 2 clocks, 3 clocks that go: all, none", () -> {
            CuckooShop shop = fullShop();
            due("count(2)", shop.count(2), 10);
            due("count(3)", shop.count(3), 10);
            shop.mend(9, 2);
            due("count(3) with one that stands", shop.count(3), 9);
            shop.pass(600);
            due("count(2) as all stand", shop.count(2), 10);
            due("count(3) as all stand", shop.count(3), 0);
        });
        holds("count: 4 calls in all, 5 calls in the latest minute: of ten clocks", () -> {
            CuckooShop shop = shopOf(719, 719, 719, 719, 719, 719, 719, 719, 719, 719);
            shop.pass(1);
            due("count(4)", shop.count(4), 120);
            due("count(5)", shop.count(5), 120);
            shop.pass(1);
            due("count(4) a minute later", shop.count(4), 120);
            due("count(5) a minute later", shop.count(5), 0);
        });
        holds("count: 4 calls in all: missed ones are none", () -> {
            CuckooShop shop = shopWithBellows(0);
            comeToShow(shop, 0);
            due("count(4)", shop.count(4), 60);
            due("count(5)", shop.count(5), 0);
        });
        holds("count: 5 calls in the latest minute: of one that stands since then too", () -> {
            CuckooShop shop = shopOf(719, 719);
            shop.pass(1);
            shop.mend(0, 2);
            due("count(5)", shop.count(5), 24);
            CuckooShop short1 = shopWithChain(1);
            short1.pass(1);
            due("count(5) in the last minute of a chain", short1.count(5), 5);
        });
        holds("count: 6 clocks that are off by 0: those that stand too", () -> {
            CuckooShop shop = shopOf(0, 1, 719, 360, 0);
            shop.mend(4, 2);
            due("count(6)", shop.count(6), 2);
            shop.pass(1);
            due("count(6) a minute later", shop.count(6), 1);
        });
        holds("count: 7 how far all are off, each without the sign, added", () -> {
            due("1 and -1", shopOf(1, 719).count(7), 2);
            due("359 and -360", shopOf(359, 360).count(7), 719);
            due("ten times -360", shopOf(360, 360, 360, 360, 360, 360, 360, 360, 360, 360).count(7), 3600);
        });
    }

    // ---- promise 11

    private static void pass() {
        holds("pass: Throws IllegalArgumentException if minutes is not 1 to 720", () ->
            dueBounds(ARGUMENT, 1, 720, x -> shopOf(0).pass(x)));
        holds("pass: Lets minutes go by: 1 and 720", () -> {
            CuckooShop shop = shopOf(0);
            shop.pass(1);
            due("count(0) behind 1", shop.count(0), 1);
            shop.pass(720);
            due("count(0) behind 720 more", shop.count(0), 721);
        });
        holds("pass: Returns how many calls there are in them: none, the last one's, all", () -> {
            due("pass(29)", shopOf(0).pass(29), 0);
            due("pass(30)", shopOf(0).pass(30), 1);
            due("pass(60)", shopOf(0).pass(60), 2);
            due("pass(720), to bellows of 0", shopOf(0).pass(720), 60);
        });
        holds("pass: Returns how many calls there are in them: not those ahead of them", () -> {
            CuckooShop shop = shopOf(0);
            shop.pass(60);
            due("pass(60)", shop.pass(60), 3);
        });
        holds("pass: Returns how many calls there are in them: of all clocks", () -> {
            due("pass(1) of 12, 1 and none", shopOf(719, 29, 1).pass(1), 13);
            due("pass(1) of none, 1 and 12", shopOf(1, 29, 719).pass(1), 13);
        });
        holds("pass: in one go as one by one", () -> {
            CuckooShop whole = livelyShop(10);
            CuckooShop parts = livelyShop(10);
            int calls = 0;
            for (int i = 0; i < 240; i++) {
                calls += parts.pass(1);
            }
            due("pass(240)", whole.pass(240), calls);
            due("digest", whole.digest(), parts.digest());
        });
    }

    // ---- promise 12

    /** In the minute 791 its clock shows 0 with an oil of 20: 10 minutes of 900 are to come, then those of 810. */
    private static CuckooShop shopThatDriesUp() {
        CuckooShop shop = shopWithOil(21);
        shop.pass(1);
        shop.set(0, 0);
        shop.mend(0, 1);
        return shop;
    }

    private static void next() {
        holds("next: Throws IndexOutOfBoundsException if there is no such clock", () ->
            noSuchClock((s, i) -> s.next(i)));
        holds("next: behind how many minutes it has called again for the first time: in the minute to come", () -> {
            due("next of 719", shopOf(719).next(0), 1);
            due("next of 29", shopOf(29).next(0), 1);
        });
        holds("next: has called again: not the call that was", () -> {
            CuckooShop shop = shopOf(719);
            shop.pass(1);
            due("next", shop.next(0), 30);
        });
        holds("next: -1 if it does not by then: one that stands", () -> {
            CuckooShop shop = shopOf(719);
            shop.mend(0, 2);
            due("next", shop.next(0), -1);
        });
        holds("next: at the last minute of its chain", () -> {
            CuckooShop shop = shopOf(0);
            shop.shut(0, 0, 600);
            due("next", shop.next(0), 600);
        });
        holds("next: -1 if it does not by then: its chain ends a minute ahead of its call", () -> {
            CuckooShop shop = shopOf(0);
            shop.shut(0, 0, 601);
            due("next", shop.next(0), -1);
            CuckooShop short1 = shopWithChain(29);
            short1.set(0, 0);
            due("next with a chain of 29", short1.next(0), -1);
            CuckooShop enough = shopWithChain(30);
            enough.set(0, 0);
            enough.mend(0, 1);
            due("next with a chain of 30", enough.next(0), 30);
        });
        holds("next: -1 if it does not by then: always shut off", () -> {
            CuckooShop shop = shopOf(719);
            shop.shut(0, 5, 5);
            due("next", shop.next(0), -1);
        });
        holds("next: -1 if it does not by then: without bellows", () ->
            due("next", shopWithBellows(0).next(0), -1));
        holds("next: with its gears, its pendulum and its rest", () -> {
            CuckooShop shop = shopOf(0);
            shop.gear(0, 30, 30, -20);
            due("next of 880", shop.next(0), 31);
            shop.gear(0, 30, 30, -1);
            shop.pass(1);
            shop.gear(0, 30, 30, 0);
            due("next of 900 with a rest of 899", shop.next(0), 30);
            shop.gear(0, 30, 30, 1);
            due("next of 901 with a rest of 899", shop.next(0), 29);
        });
        holds("next: its oil falls below 20 ahead of it, by the numbers of the minutes", () ->
            due("next", shopThatDriesUp().next(0), 33));
        holds("next: the first that is not shut off, of a fast one behind a round", () -> {
            CuckooShop shop = shopOf(0);
            shop.gear(0, 40, 20, 0);
            shop.shut(0, 1, 0);
            due("next", shop.next(0), 360);
        });
        holds("next: (nothing is changed)", () -> {
            CuckooShop shop = livelyShop(10);
            long before = shop.digest();
            for (int i = 0; i < 10; i++) {
                shop.next(i);
            }
            due("digest", shop.digest(), before);
            due("next again", shop.next(1), livelyShop(10).next(1));
            CuckooShop short1 = shopWithChain(0);
            short1.next(0);
            due("it goes with a chain of 0", short1.clock(0, 5), 0);
        });
    }

    // ---- promise 13

    private static void stands() {
        holds("stands: Throws IndexOutOfBoundsException if there is no such clock", () ->
            noSuchClock((s, i) -> s.stands(i)));
        holds("stands: behind how many minutes it stands: with a chain of 600 and of 1", () -> {
            due("stands with 600", shopOf(0).stands(0), 600);
            due("stands with 1", shopWithChain(1).stands(0), 1);
        });
        holds("stands: 0 if it does: with a chain of 0", () ->
            due("stands", shopWithChain(0).stands(0), 0));
        holds("stands: 0 if it does: with a full chain", () -> {
            CuckooShop shop = shopOf(0);
            shop.mend(0, 2);
            due("stands", shop.stands(0), 0);
            shop.mend(0, 2);
            due("stands as it goes again", shop.stands(0), 600);
        });
        holds("stands: (nothing is changed)", () -> {
            CuckooShop shop = livelyShop(10);
            long before = shop.digest();
            for (int i = 0; i < 10; i++) {
                shop.stands(i);
            }
            due("digest", shop.digest(), before);
            CuckooShop short1 = shopWithChain(0);
            short1.stands(0);
            due("it goes with a chain of 0", short1.clock(0, 5), 0);
        });
    }

    // ---- promise 14

    private static void loudest() {
        holds("loudest: Throws IllegalArgumentException if minutes is not 1 to 720", () ->
            dueBounds(ARGUMENT, 1, 720, x -> shopOf(0).loudest(x)));
        holds("loudest: the first and the last of them are of them", () -> {
            due("loudest(1)", shopOf(719).loudest(1), 1);
            due("loudest(30)", shopOf(0).loudest(30), 30);
            due("loudest(29)", shopOf(0).loudest(29), -1);
        });
        holds("loudest: the most calls of all clocks: together", () ->
            due("loudest(61)", shopOf(1, 30, 30).loudest(61), 30));
        holds("loudest: of several the fewest", () ->
            due("loudest(59)", shopOf(0, 10, 20).loudest(59), 10));
        holds("loudest: of several the fewest: but the most of all behind them", () ->
            due("loudest(60)", shopOf(60, 70).loudest(60), 50));
        holds("loudest: -1 if there are none", () -> {
            due("without clocks", new CuckooShop().loudest(720), -1);
            CuckooShop shop = shopOf(719, 719);
            shop.mend(0, 2);
            shop.shut(1, 0, 0);
            due("one stands, one is shut off", shop.loudest(720), -1);
            due("without bellows", shopWithBellows(0).loudest(720), -1);
        });
        holds("loudest: the calls of the minute that was are not of them", () -> {
            CuckooShop shop = shopOf(719);
            shop.pass(1);
            due("loudest(29)", shop.loudest(29), -1);
            due("loudest(30)", shop.loudest(30), 30);
        });
        holds("loudest: its oil falls below 20 ahead of it, by the numbers of the minutes", () ->
            due("loudest(40)", shopThatDriesUp().loudest(40), 33));
        holds("loudest: (nothing is changed)", () -> {
            CuckooShop shop = livelyShop(10);
            long before = shop.digest();
            shop.loudest(720);
            due("digest", shop.digest(), before);
        });
    }

    // ---- promise 15

    private static void foresee() {
        holds("foresee: Throws IllegalArgumentException if minutes is not 1 to 720", () ->
            dueBounds(ARGUMENT, 1, 720, x -> shopOf(0).foresee(x, 3)));
        holds("foresee: Throws IndexOutOfBoundsException if what is not 0 to 3", () ->
            dueBounds(INDEX, 0, 3, x -> shopOf(0).foresee(1, x)));
        holds("foresee: 0 calls in them: the last of them is of them, no more", () -> {
            due("foresee(1, 0)", shopOf(719).foresee(1, 0), 12);
            due("foresee(29, 0)", shopOf(0).foresee(29, 0), 0);
            due("foresee(30, 0)", shopOf(0).foresee(30, 0), 1);
        });
        holds("foresee: 0 calls in them: all, of all clocks", () -> {
            due("foresee(60, 0)", shopOf(0).foresee(60, 0), 2);
            due("foresee(720, 0), to bellows of 0", shopOf(0).foresee(720, 0), 60);
            due("foresee(1, 0) of 12, 1 and none", shopOf(719, 29, 1).foresee(1, 0), 13);
        });
        holds("foresee: 0 calls in them: not those that were", () -> {
            CuckooShop shop = shopOf(719);
            shop.pass(1);
            due("foresee(29, 0)", shop.foresee(29, 0), 0);
            due("foresee(30, 0)", shop.foresee(30, 0), 1);
        });
        holds("foresee: 1 calls that are missed in them: not those that were", () -> {
            CuckooShop shop = shopWithBellows(1);
            comeToShow(shop, 0);
            due("missed", shop.clock(0, 8), 11);
            due("foresee(29, 1)", shop.foresee(29, 1), 0);
            due("foresee(30, 1)", shop.foresee(30, 1), 1);
        });
        holds("foresee: 1 calls that are missed in them: those that are left alone", () -> {
            CuckooShop shop = shopWithBellows(1);
            shop.set(0, 719);
            due("foresee(1, 0)", shop.foresee(1, 0), 1);
            due("foresee(1, 1)", shop.foresee(1, 1), 11);
            shop.shut(0, 0, 0);
            due("foresee(1, 1), shut off", shop.foresee(1, 1), 0);
        });
        holds("foresee: 2 clocks that go then", () -> {
            CuckooShop shop = shopOf(0, 0);
            due("foresee(599, 2)", shop.foresee(599, 2), 2);
            due("foresee(600, 2)", shop.foresee(600, 2), 0);
            due("foresee(601, 2)", shop.foresee(601, 2), 0);
            shop.mend(1, 2);
            due("foresee(599, 2), one stands", shop.foresee(599, 2), 1);
        });
        holds("foresee: 3 how far all are off then, each without the sign, added", () -> {
            CuckooShop shop = shopOf(1, 719);
            due("foresee(1, 3)", shop.foresee(1, 3), 2);
            shop.mend(0, 2);
            shop.mend(1, 2);
            due("foresee(1, 3), 0 and -2", shop.foresee(1, 3), 2);
            due("foresee(361, 3), -360 and 358", shop.foresee(361, 3), 718);
            due("foresee(720, 3), as now", shop.foresee(720, 3), 2);
        });
        holds("foresee: then: over the end of the dial", () -> {
            CuckooShop shop = new CuckooShop();
            shop.pass(719);
            shop.come(0);
            due("foresee(1, 3)", shop.foresee(1, 3), 1);
            shop.mend(0, 2);
            due("foresee(1, 3), it stands", shop.foresee(1, 3), 0);
        });
        holds("foresee: its oil falls below 20 ahead of it, by the numbers of the minutes", () -> {
            due("foresee(32, 0)", shopThatDriesUp().foresee(32, 0), 0);
            due("foresee(33, 0)", shopThatDriesUp().foresee(33, 0), 1);
        });
        holds("foresee: oil and chain go on as in minutes that go by", () -> {
            CuckooShop shop = shopWithOil(20);
            CuckooShop lived = shopWithOil(20);
            int calls = lived.pass(700);
            due("foresee(700, 0)", shop.foresee(700, 0), calls);
            due("foresee(700, 1)", shop.foresee(700, 1), lived.clock(0, 8) - shop.clock(0, 8));
            due("foresee(700, 2)", shop.foresee(700, 2), lived.count(3));
            due("foresee(700, 3)", shop.foresee(700, 3), lived.count(7));
        });
        holds("foresee: (nothing is changed)", () -> {
            CuckooShop shop = livelyShop(10);
            long before = shop.digest();
            for (int what = 0; what < 4; what++) {
                shop.foresee(720, what);
            }
            due("digest", shop.digest(), before);
        });
    }

    // ---- promise 16

    /** The least of 100 * a and b of the gears of 20 to 40 teeth that are the nearest, by gear() alone. */
    private static int nearestGears(boolean oily, int swing) {
        int best = 0;
        int nearest = GREATEST;
        for (int a = 20; a <= 40; a++) {
            CuckooShop shop = oily ? shopOf(0) : shopWithOil(19);
            for (int b = 20; b <= 40; b++) {
                int distance = Math.abs(shop.gear(0, a, b, swing) - 900);
                if (distance < nearest || distance == nearest && 100 * a + b < best) {
                    nearest = distance;
                    best = 100 * a + b;
                }
            }
        }
        return best;
    }

    private static void advise() {
        holds("advise: Throws IndexOutOfBoundsException if there is no such clock", () ->
            noSuchClock((s, i) -> s.advise(i)));
        holds("advise: of several the least number: of all that are 900", () -> {
            CuckooShop shop = shopOf(0);
            due("advise", shop.advise(0), 2020);
            shop.gear(0, 40, 20, 0);
            due("advise with other gears", shop.advise(0), 2020);
        });
        holds("advise: of several the least number: of two that are 3 above 900", () -> {
            CuckooShop shop = shopOf(0);
            shop.gear(0, 30, 30, -20);
            due("advise", shop.advise(0), 3938);
            due("900 * 39 / 38 - 20", shop.gear(0, 39, 38, -20), 903);
            due("900 * 40 / 39 - 20", shop.gear(0, 40, 39, -20), 903);
        });
        holds("advise: of several the least number: the least is 1 below 900, another one 1 above", () -> {
            CuckooShop shop = shopWithOil(19);
            due("gear(0, 34, 30, -19)", shop.gear(0, 34, 30, -19), 901);
            due("gear(0, 26, 23, -19)", shop.gear(0, 26, 23, -19), 899);
            due("advise", shop.advise(0), 2623);
        });
        holds("advise: of several the least number: the least is 1 above 900, another one 1 below", () -> {
            CuckooShop shop = shopWithOil(19);
            due("gear(0, 37, 33, -11)", shop.gear(0, 37, 33, -11), 899);
            due("gear(0, 27, 24, -11)", shop.gear(0, 27, 24, -11), 901);
            due("advise", shop.advise(0), 2724);
        });
        holds("advise: with its pendulum as it is: -20 to 20", () -> {
            for (int swing = -20; swing <= 20; swing++) {
                CuckooShop shop = shopOf(0);
                shop.gear(0, 40, 20, swing);
                due("advise with " + swing, shop.advise(0), nearestGears(true, swing));
            }
        });
        holds("advise: with its oil as it is: 20 and 19", () -> {
            due("advise with an oil of 20", shopWithOil(20).advise(0), 2020);
            due("advise with an oil of 19", shopWithOil(19).advise(0), 3027);
        });
        holds("advise: with its oil as it is: 19, with each pendulum", () -> {
            for (int swing = -20; swing <= 20; swing += 5) {
                CuckooShop shop = shopWithOil(19);
                shop.gear(0, 30, 30, swing);
                due("advise with " + swing, shop.advise(0), nearestGears(false, swing));
            }
        });
        holds("advise: (nothing is changed)", () -> {
            CuckooShop shop = livelyShop(10);
            long before = shop.digest();
            for (int i = 0; i < 10; i++) {
                shop.advise(i);
            }
            due("digest", shop.digest(), before);
        });
    }

    // ---- promise 17

    private static void mean() {
        holds("mean: 0 if none does: without clocks", () -> dueDouble("mean", new CuckooShop().mean(), 0.0));
        holds("mean: 0 if none does: all stand", () -> {
            CuckooShop shop = shopOf(0, 0);
            shop.mend(0, 2);
            shop.mend(1, 2);
            dueDouble("mean", shop.mean(), 0.0);
            dueDouble("mean with a chain of 0", shopWithChain(0).mean(), 0.0);
        });
        holds("mean: of all clocks that go: those alone", () -> {
            CuckooShop shop = shopOf(0, 0, 0);
            shop.gear(1, 40, 20, 20);
            dueDouble("mean of 900, 1820 and 900", shop.mean(), 3620.0 / 3.0);
            shop.mend(1, 2);
            dueDouble("mean of 900 and 900", shop.mean(), 900.0);
            shop.mend(0, 2);
            shop.mend(2, 2);
            shop.mend(1, 2);
            dueDouble("mean of 1820", shop.mean(), 1820.0);
        });
        holds("mean: it is not cut", () -> {
            CuckooShop shop = shopOf(0, 0);
            shop.gear(0, 30, 30, 1);
            dueDouble("mean of 901 and 900", shop.mean(), 900.5);
        });
        holds("mean: of ten clocks", () -> {
            CuckooShop shop = fullShop();
            for (int i = 0; i < 10; i++) {
                shop.gear(i, 20, 40, -20);
            }
            dueDouble("mean of ten times 430", shop.mean(), 430.0);
            shop.gear(9, 20, 40, -19);
            dueDouble("mean of nine times 430 and 431", shop.mean(), 430.1);
        });
    }

    // ---- promise 18

    /** By the face and the trains and times that were given: without an end to its numbers, cut to 64 bits last. */
    private static long digestOf(CuckooShop shop, int... given) {
        BigInteger d = BigInteger.valueOf(1009);
        for (int what = 0; what < 8; what++) {
            d = mixed(d, shop.count(what));
        }
        for (int clock = 0; clock < shop.count(2); clock++) {
            for (int i = 0; i < 5; i++) {
                d = mixed(d, given[5 * clock + i]);
            }
            for (int what = 0; what < 11; what++) {
                d = mixed(d, shop.clock(clock, what));
            }
        }
        return d.longValue();
    }

    private static BigInteger mixed(BigInteger d, int x) {
        return d.multiply(BigInteger.valueOf(31)).add(BigInteger.valueOf(x));
    }

    private static void digest() {
        holds("digest: A number d starts with 1009: without clocks, in the minute 0", () ->
            due("digest", new CuckooShop().digest(), 1009L * 31 * 31 * 31 * 31 * 31 * 31 * 31 * 31));
        holds("digest: which wraps around as a 64-bit integer", () -> {
            CuckooShop shop = shopOf(0);
            due("digest of one", shop.digest(), digestOf(shop, 30, 30, 0, -1, 0));
            CuckooShop full = fullShop();
            int[] given = new int[50];
            for (int i = 0; i < 10; i++) {
                int[] its = {20 + i, 40 - 2 * i, 4 * i - 20, 79 * i, 719 - 79 * i};
                full.gear(i, its[0], its[1], its[2]);
                full.shut(i, its[3], its[4]);
                System.arraycopy(its, 0, given, 5 * i, 5);
            }
            full.pass(400);
            due("digest of ten", full.digest(), digestOf(full, given));
        });
        holds("digest: the first time from which it is shut off (-1 if it is not)", () -> {
            CuckooShop shop = shopOf(0);
            shop.shut(0, 719, 0);
            due("from 719", shop.digest(), digestOf(shop, 30, 30, 0, 719, 0));
            shop.shut(0, 0, 0);
            due("from 0", shop.digest(), digestOf(shop, 30, 30, 0, 0, 0));
            shop.shut(0, -1, 0);
            due("not at all", shop.digest(), digestOf(shop, 30, 30, 0, -1, 0));
        });
        holds("digest: the time before which this ends (0 if it is not)", () -> {
            CuckooShop shop = shopOf(0);
            shop.shut(0, 3, 719);
            due("till 719", shop.digest(), digestOf(shop, 30, 30, 0, 3, 719));
            shop.shut(0, -1, 0);
            due("not at all", shop.digest(), digestOf(shop, 30, 30, 0, -1, 0));
        });
        holds("digest: nothing is changed by it", () -> {
            CuckooShop shop = livelyShop(10);
            long before = shop.digest();
            due("digest again", shop.digest(), before);
        });
    }
}
