import java.util.concurrent.Callable;

/** For each promise: ordinary inputs, the edges that the document names, and wrong inputs. */
public final class PromiseTests {
    private static final Class<?> ARGUMENT = IllegalArgumentException.class;
    private static final Class<?> STATE = IllegalStateException.class;
    private static final Class<?> INDEX = IndexOutOfBoundsException.class;

    private static int wrong = 0;

    private static void due(String what, long got, long want) {
        if (got != want) {
            wrong++;
            System.out.println(what + " answered " + got + ", due is " + want);
        }
    }

    private static void dueDouble(String what, double got, double want) {
        if (got != want) {
            wrong++;
            System.out.println(what + " answered " + got + ", due is " + want);
        }
    }

    /** The call throws exactly this class, and the shop is as it was. */
    private static void dueThrow(String what, CuckooShop shop, Class<?> want, Callable<?> call) {
        long before = shop.digest();
        Class<?> got = null;
        try {
            call.call();
        } catch (Exception e) {
            got = e.getClass();
        }
        if (got != want) {
            wrong++;
            System.out.println(what + " threw " + got + ", due is " + want);
        }
        due(what + ", digest behind it", shop.digest(), before);
    }

    private static CuckooShop shopOf(int... shown) {
        CuckooShop shop = new CuckooShop();
        for (int time : shown) {
            shop.come(time);
        }
        return shop;
    }

    private static void dueClock(String what, CuckooShop shop, int clock, int... readings) {
        for (int i = 0; i < readings.length; i++) {
            due(what + ", clock(" + clock + ", " + i + ")", shop.clock(clock, i), readings[i]);
        }
    }

    private static void dueCounts(String what, CuckooShop shop, int... counts) {
        for (int i = 0; i < counts.length; i++) {
            due(what + ", count(" + i + ")", shop.count(i), counts[i]);
        }
    }

    public static void main(String[] args) {
        newObject();
        come();
        gear();
        gearMovesTheHands();
        set();
        wind();
        mend();
        shut();
        shutTimes();
        clock();
        callsAndBellows();
        fastClocks();
        oilRunsOut();
        off();
        count();
        pass();
        next();
        stands();
        loudest();
        foresee();
        advise();
        mean();
        digest();
        System.out.println(wrong == 0 ? "PromiseTests: all answers are as due" : "PromiseTests: " + wrong + " answers are not as due");
        if (wrong != 0) {
            System.exit(1);
        }
    }

    // Promise 1
    private static void newObject() {
        CuckooShop shop = new CuckooShop();
        dueCounts("new", shop, 0, 0, 0, 0, 0, 0, 0, 0);
        dueDouble("new, mean", shop.mean(), 0.0);
        due("new, loudest(720)", shop.loudest(720), -1);
        for (int what = 0; what < 4; what++) {
            due("new, foresee(720, " + what + ")", shop.foresee(720, what), 0);
        }
        dueThrow("new, clock(0, 0)", shop, INDEX, () -> shop.clock(0, 0));
        due("new, pass(720)", shop.pass(720), 0);
        dueCounts("new and pass(720)", shop, 720, 0, 0, 0, 0, 0, 0, 0);
        due("another new one", new CuckooShop().count(0), 0);
    }

    // Promise 2
    private static void come() {
        CuckooShop shop = new CuckooShop();
        dueThrow("come(-1)", shop, ARGUMENT, () -> shop.come(-1));
        dueThrow("come(720)", shop, ARGUMENT, () -> shop.come(720));
        dueThrow("come(least)", shop, ARGUMENT, () -> shop.come(Integer.MIN_VALUE));
        dueThrow("come(greatest)", shop, ARGUMENT, () -> shop.come(Integer.MAX_VALUE));
        due("come(0)", shop.come(0), 0);
        due("come(719)", shop.come(719), 1);
        dueClock("come(0)", shop, 0, 0, 0, 600, 100, 60, 1, 900, 0, 0, 0, 0);
        dueClock("come(719)", shop, 1, 719, 0, 600, 100, 60, 1, 900, 0, 0, 0, 0);
        shop.pass(40);
        for (int i = 2; i < 10; i++) {
            due("come " + i, shop.come(60 * i), i);
        }
        dueClock("come(120) later", shop, 2, 120, 0, 600, 100, 60, 1, 900, 0, 0, 0, 0);
        dueThrow("come, the 11th", shop, STATE, () -> shop.come(5));
        dueThrow("come(720), the 11th", shop, ARGUMENT, () -> shop.come(720));
        due("ten clocks", shop.count(2), 10);
        due("the tenth shows", shop.clock(9, 0), 540);
    }

    // Promise 3
    private static void gear() {
        CuckooShop shop = shopOf(5);
        due("gear(0, 40, 30, 5)", shop.gear(0, 40, 30, 5), 1205);
        due("its advance", shop.clock(0, 6), 1205);
        due("gear(0, 25, 33, -20)", shop.gear(0, 25, 33, -20), 661);
        due("gear(0, 20, 40, -20)", shop.gear(0, 20, 40, -20), 430);
        due("gear(0, 40, 20, 20)", shop.gear(0, 40, 20, 20), 1820);
        due("gear(0, 31, 29, 0)", shop.gear(0, 31, 29, 0), 962);
        int[] teeth = {19, 41, 0, -1, Integer.MIN_VALUE, Integer.MAX_VALUE};
        for (int tooth : teeth) {
            dueThrow("gear a " + tooth, shop, ARGUMENT, () -> shop.gear(0, tooth, 30, 0));
            dueThrow("gear b " + tooth, shop, ARGUMENT, () -> shop.gear(0, 30, tooth, 0));
        }
        dueThrow("swing -21", shop, ARGUMENT, () -> shop.gear(0, 30, 30, -21));
        dueThrow("swing 21", shop, ARGUMENT, () -> shop.gear(0, 30, 30, 21));
        dueThrow("gear(1, ..)", shop, INDEX, () -> shop.gear(1, 30, 30, 0));
        dueThrow("gear(-1, 0, 0, 99)", shop, INDEX, () -> shop.gear(-1, 0, 0, 99));
        due("its advance still", shop.clock(0, 6), 962);
    }

    private static void gearMovesTheHands() {
        CuckooShop shop = shopOf(0);
        shop.gear(0, 40, 30, 5);
        shop.pass(1);
        dueClock("1 minute of 1205", shop, 0, 1, 305);
        shop.pass(1);
        dueClock("2 minutes of 1205", shop, 0, 2, 610);
        shop.pass(1);
        dueClock("3 minutes of 1205", shop, 0, 4, 15);
        shop.gear(0, 20, 40, 0);
        dueClock("gear keeps the rest", shop, 0, 4, 15);
        shop.pass(1);
        dueClock("1 minute of 450", shop, 0, 4, 465);
        shop.pass(1);
        dueClock("2 minutes of 450", shop, 0, 5, 15);
    }

    // Promise 4
    private static void set() {
        CuckooShop shop = shopOf(10);
        due("set(0, 700)", shop.set(0, 700), 10);
        due("off then", shop.off(0), -20);
        due("set(0, 60)", shop.set(0, 60), -20);
        due("no call by setting", shop.count(4), 0);
        due("no call by setting, in the latest minute", shop.clock(0, 9), 0);
        shop.gear(0, 40, 30, 5);
        shop.pass(1);
        due("rest ahead of set", shop.clock(0, 1), 305);
        due("set(0, 719)", shop.set(0, 719), 60);
        dueClock("set(0, 719)", shop, 0, 719, 0, 599, 99, 60, 1);
        due("set(0, 0)", shop.set(0, 0), -2);
        dueThrow("set(0, -1)", shop, ARGUMENT, () -> shop.set(0, -1));
        dueThrow("set(0, 720)", shop, ARGUMENT, () -> shop.set(0, 720));
        dueThrow("set(1, 0)", shop, INDEX, () -> shop.set(1, 0));
        dueThrow("set(-1, 720)", shop, INDEX, () -> shop.set(-1, 720));
    }

    // Promise 5
    private static void wind() {
        CuckooShop shop = shopOf(0, 0);
        due("wind of a full chain", shop.wind(0), 0);
        shop.pass(8);
        due("chain behind 8 minutes", shop.clock(0, 2), 592);
        due("wind behind 8 minutes", shop.wind(0), 8);
        due("chain behind wind", shop.clock(0, 2), 600);
        due("chain of the other one", shop.clock(1, 2), 592);
        shop.mend(0, 2);
        due("wind of one that stands", shop.wind(0), 0);
        due("it goes", shop.clock(0, 5), 1);
        shop.pass(600);
        due("it stands", shop.clock(0, 5), 0);
        due("wind of one that ran down", shop.wind(0), 600);
        dueClock("it is wound", shop, 0, 608, 0, 600, 39);
        due("it goes again", shop.clock(0, 5), 1);
        dueThrow("wind(2)", shop, INDEX, () -> shop.wind(2));
        dueThrow("wind(-1)", shop, INDEX, () -> shop.wind(-1));
    }

    // Promise 6
    private static void mend() {
        CuckooShop shop = shopOf(700);
        due("mend oil that is full", shop.mend(0, 0), 0);
        due("mend bellows that are full", shop.mend(0, 1), 0);
        shop.pass(20);
        due("oil behind the minutes 0 and 10", shop.clock(0, 3), 98);
        due("bellows behind 12 calls", shop.clock(0, 4), 48);
        due("mend oil", shop.mend(0, 0), 2);
        dueClock("mend oil", shop, 0, 0, 0, 580, 100, 48, 1);
        due("mend bellows", shop.mend(0, 1), 12);
        dueClock("mend bellows", shop, 0, 0, 0, 580, 100, 60, 1, 900, 12, 0, 12);
        due("make it stand", shop.mend(0, 2), 0);
        shop.pass(10);
        dueClock("it stood", shop, 0, 0, 0, 580, 100, 60, 0, 900, 12, 0, 0);
        due("make it go", shop.mend(0, 2), 1);
        shop.pass(580);
        due("its chain is 0", shop.clock(0, 2), 0);
        due("it can't go", shop.mend(0, 2), 0);
        due("it stands", shop.clock(0, 5), 0);
        due("oil of one that stands", shop.mend(0, 0), 58);
        dueThrow("mend(0, -1)", shop, ARGUMENT, () -> shop.mend(0, -1));
        dueThrow("mend(0, 3)", shop, ARGUMENT, () -> shop.mend(0, 3));
        dueThrow("mend(1, 3)", shop, INDEX, () -> shop.mend(1, 3));
        dueThrow("mend(-1, 0)", shop, INDEX, () -> shop.mend(-1, 0));
    }

    // Promise 7
    private static void shut() {
        CuckooShop shop = shopOf(0);
        due("shut(0, 0, 719)", shop.shut(0, 0, 719), -1);
        due("shut(0, 719, 0)", shop.shut(0, 719, 0), 0);
        due("shut(0, -1, 0)", shop.shut(0, -1, 0), 719);
        due("shut(0, 5, 5)", shop.shut(0, 5, 5), -1);
        due("shut(0, 5, 6)", shop.shut(0, 5, 6), 5);
        dueThrow("shut(0, -2, 0)", shop, ARGUMENT, () -> shop.shut(0, -2, 0));
        dueThrow("shut(0, 720, 0)", shop, ARGUMENT, () -> shop.shut(0, 720, 0));
        dueThrow("shut(0, 0, -1)", shop, ARGUMENT, () -> shop.shut(0, 0, -1));
        dueThrow("shut(0, 0, 720)", shop, ARGUMENT, () -> shop.shut(0, 0, 720));
        dueThrow("shut(0, -1, 1)", shop, ARGUMENT, () -> shop.shut(0, -1, 1));
        dueThrow("shut(0, -1, -1)", shop, ARGUMENT, () -> shop.shut(0, -1, -1));
        dueThrow("shut(1, -2, 0)", shop, INDEX, () -> shop.shut(1, -2, 0));
        dueThrow("shut(-1, 0, 0)", shop, INDEX, () -> shop.shut(-1, 0, 0));
        due("shut still", shop.shut(0, -1, 0), 5);
    }

    private static void dueShutAt(CuckooShop shop, int time, int want) {
        shop.set(0, time);
        due("shut off at " + time, shop.clock(0, 10), want);
    }

    private static void shutTimes() {
        CuckooShop shop = shopOf(0);
        dueShutAt(shop, 0, 0);
        shop.shut(0, 100, 200);
        dueShutAt(shop, 99, 0);
        dueShutAt(shop, 100, 1);
        dueShutAt(shop, 199, 1);
        dueShutAt(shop, 200, 0);
        shop.shut(0, 700, 60);
        dueShutAt(shop, 699, 0);
        dueShutAt(shop, 700, 1);
        dueShutAt(shop, 719, 1);
        dueShutAt(shop, 0, 1);
        dueShutAt(shop, 59, 1);
        dueShutAt(shop, 60, 0);
        shop.set(0, 690);
        due("no calls while shut off", shop.pass(60), 0);
        due("they are not missed", shop.clock(0, 8), 0);
        due("the bellows are as they were", shop.clock(0, 4), 60);
        due("one call at the time that ends it", shop.pass(30), 1);
        shop.shut(0, 400, 400);
        dueShutAt(shop, 399, 1);
        dueShutAt(shop, 400, 1);
        dueShutAt(shop, 401, 1);
        due("no calls at all", shop.pass(300), 0);
        shop.shut(0, 0, 0);
        dueShutAt(shop, 0, 1);
        dueShutAt(shop, 719, 1);
        shop.shut(0, -1, 0);
        dueShutAt(shop, 0, 0);
        dueShutAt(shop, 719, 0);
    }

    // Promise 8
    private static void clock() {
        CuckooShop shop = shopOf(0, 100);
        shop.shut(1, 100, 130);
        shop.gear(1, 20, 40, 0);
        shop.pass(21);
        dueClock("clock", shop, 0, 21, 0, 579, 97, 60, 1, 900, 0, 0, 0, 0);
        dueClock("clock", shop, 1, 110, 450, 579, 97, 60, 1, 450, 0, 0, 0, 1);
        dueThrow("clock(0, -1)", shop, INDEX, () -> shop.clock(0, -1));
        dueThrow("clock(0, 11)", shop, INDEX, () -> shop.clock(0, 11));
        dueThrow("clock(2, 0)", shop, INDEX, () -> shop.clock(2, 0));
        dueThrow("clock(-1, 0)", shop, INDEX, () -> shop.clock(-1, 0));
        dueThrow("clock(greatest, 0)", shop, INDEX, () -> shop.clock(Integer.MAX_VALUE, 0));
    }

    private static void callsAndBellows() {
        CuckooShop shop = shopOf(0);
        shop.pass(29);
        due("no call ahead of the half", shop.clock(0, 7), 0);
        shop.pass(1);
        due("a call at the half", shop.clock(0, 9), 1);
        shop.pass(1);
        due("none behind it", shop.clock(0, 9), 0);
        shop.pass(568);
        dueClock("behind 599 minutes", shop, 0, 599, 0, 1, 40, 5, 1, 900, 55, 0, 0, 0);
        due("the bellows have 5 calls for 10", shop.pass(1), 5);
        dueClock("behind 600 minutes", shop, 0, 600, 0, 0, 40, 0, 0, 900, 60, 5, 5, 0);
        due("it stands", shop.pass(1), 0);
        dueClock("behind 601 minutes", shop, 0, 600, 0, 0, 40, 0, 0, 900, 60, 5, 0, 0);
        shop.wind(0);
        due("without bellows", shop.pass(120), 0);
        dueClock("without bellows", shop, 0, 0, 0, 480, 28, 0, 1, 900, 60, 30, 0, 0);
        shop.mend(0, 1);
        shop.set(0, 719);
        due("12 calls at 0", shop.pass(1), 12);
        shop.set(0, 659);
        due("11 calls at 660", shop.pass(1), 11);
        shop.set(0, 689);
        due("1 call at 690", shop.pass(1), 1);
    }

    private static void fastClocks() {
        CuckooShop shop = shopOf(718, 0);
        shop.gear(0, 40, 20, 20);
        due("two minutes in one, round", shop.pass(1), 12);
        dueClock("two minutes in one", shop, 0, 0, 20);
        shop.gear(1, 40, 20, 20);
        shop.set(1, 2);
        shop.pass(44);
        dueClock("44 minutes of 1820", shop, 1, 90, 880);
        shop.set(1, 0);
        shop.pass(44);
        dueClock("44 minutes of 1820 again", shop, 1, 88, 880);
        int before = shop.clock(1, 7);
        shop.pass(1);
        dueClock("three minutes in one", shop, 1, 91, 0);
        due("the call in between", shop.clock(1, 7), before + 1);
        due("the call in the latest minute", shop.clock(1, 9), 1);
    }

    private static void oilRunsOut() {
        CuckooShop shop = shopOf(0);
        shop.pass(600);
        shop.wind(0);
        shop.pass(200);
        due("oil behind the minute 799", shop.clock(0, 3), 20);
        due("advance with an oil of 20", shop.clock(0, 6), 900);
        due("chain", shop.clock(0, 2), 400);
        shop.set(0, 0);
        shop.pass(1);
        dueClock("the minute 800", shop, 0, 1, 0, 399, 19, 0, 1, 810);
        shop.pass(1);
        dueClock("the minute 801", shop, 0, 1, 810);
        due("gear with an oil of 19", shop.gear(0, 25, 33, -20), 595);
        due("advise with an oil of 19", shop.gear(0, 30, 30, 0) + shop.advise(0), 810 + 3027);
        for (int round = 0; round < 3; round++) {
            shop.wind(0);
            shop.pass(300);
        }
        due("oil is at least 0", shop.clock(0, 3), 0);
        due("advance without oil", shop.clock(0, 6), 810);
        due("the oil of one that stands", standingOil(), 100);
        due("oil on minutes of the shop", oilOfALateOne(), 99);
    }

    private static int standingOil() {
        CuckooShop shop = shopOf(0);
        shop.mend(0, 2);
        shop.pass(100);
        return shop.clock(0, 3);
    }

    private static int oilOfALateOne() {
        CuckooShop shop = new CuckooShop();
        shop.pass(9);
        shop.come(0);
        shop.pass(1);
        due("no oil in the minute 9", shop.clock(0, 3), 100);
        shop.pass(10);
        return shop.clock(0, 3);
    }

    // Promise 9
    private static void off() {
        CuckooShop shop = shopOf(0, 359, 360, 361, 719);
        due("off of 0", shop.off(0), 0);
        due("off of 359", shop.off(1), 359);
        due("off of 360", shop.off(2), -360);
        due("off of 361", shop.off(3), -359);
        due("off of 719", shop.off(4), -1);
        for (int i = 0; i < 5; i++) {
            shop.mend(i, 2);
        }
        shop.pass(1);
        due("off of 0 at 1", shop.off(0), -1);
        due("off of 360 at 1", shop.off(2), 359);
        due("off of 361 at 1", shop.off(3), -360);
        shop.pass(718);
        due("off of 0 at 719", shop.off(0), 1);
        due("off of 359 at 719", shop.off(1), -360);
        due("off of 719 at 719", shop.off(4), 0);
        shop.pass(1);
        due("off of 0 at 720", shop.off(0), 0);
        due("off of 359 at 720", shop.off(1), 359);
        dueThrow("off(5)", shop, INDEX, () -> shop.off(5));
        dueThrow("off(-1)", shop, INDEX, () -> shop.off(-1));
    }

    // Promise 10
    private static void count() {
        CuckooShop shop = shopOf(0, 10, 700, 29);
        dueCounts("count", shop, 0, 0, 4, 4, 0, 0, 1, 59);
        shop.mend(1, 2);
        shop.pass(1);
        dueCounts("count behind 1", shop, 1, 1, 4, 3, 1, 1, 1, 9 + 20 + 29);
        shop.pass(19);
        dueCounts("count behind 20", shop, 20, 20, 4, 3, 13, 12, 1, 10 + 20 + 29);
        shop.pass(1);
        dueCounts("count behind 21", shop, 21, 21, 4, 3, 13, 0, 1, 11 + 20 + 29);
        shop.pass(709);
        due("the minute", shop.count(0), 730);
        due("the true time", shop.count(1), 10);
        due("all stand", shop.count(3), 0);
        due("one that stands is off by 0", shop.count(6), 1);
        dueThrow("count(-1)", shop, INDEX, () -> shop.count(-1));
        dueThrow("count(8)", shop, INDEX, () -> shop.count(8));
    }

    // Promise 11
    private static void pass() {
        CuckooShop shop = shopOf(0, 59);
        dueThrow("pass(0)", shop, ARGUMENT, () -> shop.pass(0));
        dueThrow("pass(-1)", shop, ARGUMENT, () -> shop.pass(-1));
        dueThrow("pass(721)", shop, ARGUMENT, () -> shop.pass(721));
        dueThrow("pass(least)", shop, ARGUMENT, () -> shop.pass(Integer.MIN_VALUE));
        due("pass(1)", shop.pass(1), 1);
        due("pass(59)", shop.pass(59), 3);
        due("pass(1) to 120", shop.pass(1), 2);
        due("pass(1) without calls", shop.pass(1), 0);
        CuckooShop long1 = shopOf(0);
        due("pass(720)", long1.pass(720), 60);
        due("the minute behind pass(720)", long1.count(0), 720);
        due("it stood at", long1.clock(0, 0), 600);
    }

    // Promise 12
    private static void next() {
        CuckooShop shop = shopOf(0, 719, 30, 1);
        due("next of 0", shop.next(0), 30);
        due("next of 719", shop.next(1), 1);
        due("next of 30", shop.next(2), 30);
        shop.gear(3, 20, 40, -20);
        due("next of a slow one", shop.next(3), 61);
        shop.gear(3, 40, 20, 20);
        due("next of a fast one", shop.next(3), 15);
        shop.shut(0, 0, 61);
        due("next of one that is shut off", shop.next(0), 90);
        shop.shut(0, 7, 7);
        due("next of one that is always shut off", shop.next(0), -1);
        shop.mend(1, 2);
        due("next of one that stands", shop.next(1), -1);
        dueThrow("next(4)", shop, INDEX, () -> shop.next(4));
        dueThrow("next(-1)", shop, INDEX, () -> shop.next(-1));
        nextAtTheEnds();
    }

    private static void nextAtTheEnds() {
        CuckooShop shop = shopOf(0, 0);
        shop.shut(0, 0, 600);
        due("next at the last of the chain", shop.next(0), 600);
        shop.shut(0, 0, 601);
        due("next behind the chain", shop.next(0), -1);
        long before = shop.digest();
        shop.next(1);
        due("next changes nothing", shop.digest(), before);
        shop.pass(599);
        due("next with few bellows", shop.next(1), 1);
        shop.pass(1);
        shop.wind(1);
        due("next without bellows", shop.next(1), -1);
        shop.mend(1, 1);
        due("next with bellows again", shop.next(1), 30);
        lateNext();
    }

    private static void lateNext() {
        CuckooShop shop = new CuckooShop();
        shop.pass(7);
        shop.come(0);
        shop.gear(0, 40, 20, 20);
        shop.shut(0, 0, 719);
        due("next of a fast one that is shut off", shop.next(0), -1);
        shop.shut(0, 1, 0);
        due("next of a fast one that calls at 0 alone", shop.next(0), 357);
    }

    // Promise 13
    private static void stands() {
        CuckooShop shop = shopOf(0, 0);
        due("stands, new", shop.stands(0), 600);
        shop.pass(8);
        due("stands behind 8", shop.stands(0), 592);
        shop.mend(1, 2);
        due("it stands by hand", shop.stands(1), 0);
        shop.pass(591);
        due("stands in 1", shop.stands(0), 1);
        shop.pass(1);
        due("it stands", shop.stands(0), 0);
        shop.wind(0);
        due("stands, wound", shop.stands(0), 600);
        dueThrow("stands(2)", shop, INDEX, () -> shop.stands(2));
        dueThrow("stands(-1)", shop, INDEX, () -> shop.stands(-1));
    }

    // Promise 14
    private static void loudest() {
        CuckooShop shop = shopOf(0, 15, 15);
        due("loudest(14)", shop.loudest(14), -1);
        due("loudest(15)", shop.loudest(15), 15);
        due("loudest(44)", shop.loudest(44), 15);
        due("loudest(45), as loud", shop.loudest(45), 15);
        due("loudest(105)", shop.loudest(105), 105);
        due("loudest(720)", shop.loudest(720), 525);
        long before = shop.digest();
        shop.loudest(720);
        due("loudest changes nothing", shop.digest(), before);
        dueThrow("loudest(0)", shop, ARGUMENT, () -> shop.loudest(0));
        dueThrow("loudest(-1)", shop, ARGUMENT, () -> shop.loudest(-1));
        dueThrow("loudest(721)", shop, ARGUMENT, () -> shop.loudest(721));
        due("loudest(1) is the minute to come", shopOf(719).loudest(1), 1);
        due("loudest is not the minute that was", loudestBehindNoon(), -1);
    }

    private static int loudestBehindNoon() {
        CuckooShop shop = shopOf(719);
        shop.pass(1);
        return shop.loudest(29);
    }

    // Promise 15
    private static void foresee() {
        CuckooShop shop = shopOf(0, 100);
        shop.gear(1, 20, 40, 0);
        due("foresee(600, 0)", shop.foresee(600, 0), 60 + (2 + 1 + 3 + 1 + 4 + 1 + 5 + 1 + 6 + 1));
        due("foresee(600, 1)", shop.foresee(600, 1), 5);
        due("foresee(599, 2)", shop.foresee(599, 2), 2);
        due("foresee(600, 2)", shop.foresee(600, 2), 0);
        due("foresee(720, 3)", shop.foresee(720, 3), 120 + 320);
        due("foresee(1, 3)", shop.foresee(1, 3), 99);
        long before = shop.digest();
        shop.foresee(720, 0);
        due("foresee changes nothing", shop.digest(), before);
        shop.pass(600);
        shop.wind(0);
        due("missed, those before not among them", shop.foresee(60, 1), 12);
        due("foresee(60, 0) without bellows", shop.foresee(60, 0), 0);
        dueThrow("foresee(0, 0)", shop, ARGUMENT, () -> shop.foresee(0, 0));
        dueThrow("foresee(721, 0)", shop, ARGUMENT, () -> shop.foresee(721, 0));
        dueThrow("foresee(1, -1)", shop, INDEX, () -> shop.foresee(1, -1));
        dueThrow("foresee(1, 4)", shop, INDEX, () -> shop.foresee(1, 4));
        dueThrow("foresee(0, 4)", shop, ARGUMENT, () -> shop.foresee(0, 4));
    }

    // Promise 16
    private static void advise() {
        CuckooShop shop = shopOf(0, 0);
        due("advise, new", shop.advise(0), 2020);
        shop.gear(0, 40, 20, 20);
        due("advise with a pendulum of 20", shop.advise(0), 3940);
        shop.gear(0, 40, 20, -20);
        due("advise with a pendulum of -20, of two as near", shop.advise(0), 3938);
        long before = shop.digest();
        shop.advise(0);
        due("advise changes nothing", shop.digest(), before);
        due("advise for the other one", shop.advise(1), 2020);
        for (int swing = -20; swing <= 20; swing++) {
            shop.gear(1, 33, 27, swing);
            due("advise with a pendulum of " + swing, shop.advise(1), nearestGears(swing));
        }
        dueThrow("advise(2)", shop, INDEX, () -> shop.advise(2));
        dueThrow("advise(-1)", shop, INDEX, () -> shop.advise(-1));
    }

    /** By the face alone: tries every pair on a clock of its own. */
    private static int nearestGears(int swing) {
        int best = 0;
        int nearest = 9999;
        for (int number = 4040; number >= 2020; number--) {
            int a = number / 100;
            int b = number % 100;
            if (b < 20 || b > 40) {
                continue;
            }
            int distance = Math.abs(900 * a / b + swing - 900);
            if (distance <= nearest) {
                nearest = distance;
                best = number;
            }
        }
        return best;
    }

    // Promise 17
    private static void mean() {
        CuckooShop shop = shopOf(0, 0, 0);
        dueDouble("mean, new", shop.mean(), 900.0);
        shop.gear(0, 30, 30, 1);
        dueDouble("mean of 901, 900, 900", shop.mean(), 2701.0 / 3.0);
        shop.mend(1, 2);
        dueDouble("mean of those that go", shop.mean(), 900.5);
        shop.mend(0, 2);
        shop.mend(2, 2);
        dueDouble("mean if none goes", shop.mean(), 0.0);
    }

    // Promise 18
    private static void digest() {
        CuckooShop shop = new CuckooShop();
        due("digest, new", shop.digest(), digestOf(shop));
        shop.come(100);
        shop.come(200);
        due("digest of two", shop.digest(), digestOf(shop, 30, 30, 0, -1, 0, 30, 30, 0, -1, 0));
        shop.gear(1, 21, 40, -7);
        shop.shut(0, 650, 120);
        shop.pass(333);
        due("digest behind 333", shop.digest(), digestOf(shop, 30, 30, 0, 650, 120, 21, 40, -7, -1, 0));
        shop.shut(0, -1, 0);
        shop.shut(1, 0, 0);
        due("digest, shut", shop.digest(), digestOf(shop, 30, 30, 0, -1, 0, 21, 40, -7, 0, 0));
        due("digest without clocks", new CuckooShop().digest(), 1009L * 31 * 31 * 31 * 31 * 31 * 31 * 31 * 31);
    }

    private static long digestOf(CuckooShop shop, int... trains) {
        long d = 1009;
        for (int what = 0; what < 8; what++) {
            d = d * 31 + shop.count(what);
        }
        for (int clock = 0; clock < shop.count(2); clock++) {
            for (int i = 0; i < 5; i++) {
                d = d * 31 + trains[5 * clock + i];
            }
            for (int what = 0; what < 11; what++) {
                d = d * 31 + shop.clock(clock, what);
            }
        }
        return d;
    }
}
