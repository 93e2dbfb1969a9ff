import java.time.DateTimeException;
import java.util.function.Supplier;

/** Boundary cases of new objects, days, prices and plans: promises 1 to 5 and 13, a test a sentence. */
final class DayEdgeTest extends Edges {
    private static final Class<DateTimeException> DATE = DateTimeException.class;

    // ---- 1

    private static void aNewObjectHasNoOrders() {
        at = "1 Lotfolio: no ORDERS";
        Lotfolio x = new Lotfolio();
        is(0, x::orders);
        for (int i = 0; i < 6; i++) {
            int stock = i;
            is(0, () -> x.lots(stock));
            is(0, () -> x.unitsAt(stock, 0));
            is(0, () -> x.unitsAt(stock, 9999));
            Check.thrown(at, () -> x.mean(stock), ArithmeticException.class);
            state(() -> x.given(stock, 1, 0, 0));
        }
        sums(x, 0, 0, 0, 0, 0, 0, 0, 0);
        for (int i = 2000; i < 2028; i++) {
            int year = i;
            is(0, () -> x.gains(year, false));
            is(0, () -> x.gains(year, true));
            is(0, () -> x.income(year));
        }
        is(0, () -> x.worth(0));
        is(0, () -> x.worth(9999));
        state(() -> x.flows(0), () -> x.flows(9999));
    }

    private static void aNewObjectHasNoPrices() {
        at = "1 Lotfolio: no PRICES";
        Lotfolio x = new Lotfolio();
        for (int i = 0; i < 6; i++) {
            int stock = i;
            none(() -> x.priceAt(stock, 0), () -> x.priceAt(stock, 9999));
            is(1, () -> x.price(stock, 0, 5));
        }
    }

    private static void bandsAreFrom0To1000() {
        for (int i = 0; i < 6; i++) {
            int stock = i;
            at = "1 Lotfolio: BANDS from 0 to 1000, STOCK " + stock;
            Lotfolio x = new Lotfolio();
            x.price(stock, 0, 1);
            x.buy(stock, 0, 7, 1, 0);
            is(0, () -> x.fewest(0));
        }
        at = "1 Lotfolio: an object of its own";
        Lotfolio one = lots(1);
        one.price(0, 0, 1);
        Check.alike(at, Snapshot.of(new Lotfolio()), Snapshot.of(new Lotfolio()));
        is(0, () -> new Lotfolio().lots(0));
        is(1, () -> one.lots(0));
    }

    // ---- 2, 3

    private static void eachMonthHasItsDays() {
        int[] lengths = {31, 28, 31, 30, 31, 30, 31, 31, 30, 31, 30, 31};
        for (int year : new int[] {2000, 2001, 2002, 2003, 2004, 2026}) {
            int due = 365 * (year - 2000) + (year - 1997) / 4;
            for (int month = 1; month <= 12; month++) {
                at = "2 day: of month " + month + " of " + year;
                int length = lengths[month - 1] + (month == 2 && year % 4 == 0 ? 1 : 0);
                Lotfolio x = new Lotfolio();
                int y = year;
                int m = month;
                is(due, () -> x.day(y, m, 1));
                due += length;
                is(due - 1, () -> x.day(y, m, length));
                int last = due - 1;
                is(10000 * y + 100 * m + length, () -> x.date(last));
                is(10000 * y + 100 * m + 1, () -> x.date(last - length + 1));
                noDate(() -> x.day(y, m, 0), () -> x.day(y, m, length + 1));
            }
        }
    }

    private static void thereIsNoSuchDate() {
        at = "2 day: there is no such date, or month";
        refused(DATE, () -> lots(1), x -> x.day(2000, 0, 1), x -> x.day(2000, 13, 1), x -> x.day(2000, MIN, 1),
            x -> x.day(2000, MAX, 1), x -> x.day(2000, 1, MIN), x -> x.day(2000, 1, MAX), x -> x.day(2001, 2, 29),
            x -> x.day(2000, 2, 30), x -> x.day(2000, 1, 0), x -> x.day(2000, 1, 32));
        at = "2 day: there is no such date, ahead of: it is no DAY";
        refused(DATE, () -> lots(1), x -> x.day(1999, 2, 29), x -> x.day(1999, 13, 1), x -> x.day(2028, 4, 31),
            x -> x.day(2027, 5, 32), x -> x.day(1900, 2, 29), x -> x.day(2100, 2, 29), x -> x.day(-1, 2, 29));
        at = "2 day: nor beyond the years -999999999 to 999999999";
        refused(DATE, () -> lots(1), x -> x.day(1000000000, 1, 1), x -> x.day(-1000000000, 12, 31),
            x -> x.day(MAX, 1, 1), x -> x.day(MIN, 1, 1));
    }

    private static void aDateThatIsNoDay() {
        at = "2 day: it is no DAY";
        is(0, () -> new Lotfolio().day(2000, 1, 1));
        is(9999, () -> new Lotfolio().day(2027, 5, 18));
        refused(ARGUMENT, () -> lots(1), x -> x.day(1999, 12, 31), x -> x.day(2027, 5, 19), x -> x.day(2027, 6, 1),
            x -> x.day(2028, 1, 1), x -> x.day(2028, 2, 29), x -> x.day(1996, 2, 29), x -> x.day(1600, 2, 29));
        at = "2 day: it is no DAY, in the least YEAR and in the greatest one";
        refused(ARGUMENT, () -> lots(1), x -> x.day(999999999, 12, 31), x -> x.day(-999999999, 1, 1),
            x -> x.day(0, 2, 29), x -> x.day(-4, 2, 29), x -> x.day(-400, 2, 29));
        noDate(() -> new Lotfolio().day(-100, 2, 29), () -> new Lotfolio().day(999999999, 2, 29));
        at = "2 day: asking changes nothing";
        asked(() -> lots(1), x -> x.day(2000, 1, 1), x -> x.date(9999));
    }

    private static void aDayThatIsNone() {
        at = "3 date: it is no DAY";
        ends(ARGUMENT, () -> lots(1), 0, 9999, Lotfolio::date);
        is(20000101, () -> new Lotfolio().date(0));
        is(20270518, () -> new Lotfolio().date(9999));
    }

    // ---- 4, 5

    private static Lotfolio priced() {
        Lotfolio x = lots(1);
        x.price(0, 100, 7);
        x.price(0, 200, 0);
        return x;
    }

    private static void argumentsOfPrice() {
        at = "4 price: stock is out of range";
        ends(ARGUMENT, DayEdgeTest::priced, 0, 5, (x, stock) -> x.price(stock, 50, 1));
        at = "4 price: day is out of range";
        ends(ARGUMENT, DayEdgeTest::priced, 0, 9999, (x, day) -> x.price(0, day, 1));
        at = "4 price: cents are out of range";
        ends(ARGUMENT, DayEdgeTest::priced, 0, 99999, (x, cents) -> x.price(0, 50, cents));
        at = "4 price: the least and the greatest of all";
        Lotfolio x = new Lotfolio();
        is(1, () -> x.price(0, 0, 0));
        is(1, () -> x.price(5, 9999, 99999));
        is(0, () -> x.priceAt(0, 9999));
        is(99999, () -> x.priceAt(5, 9999));
        none(() -> x.priceAt(5, 9998));
    }

    private static void aPriceInPlaceOfOneOfTheSameDay() {
        at = "4 price: in place of one of the same DAY";
        Lotfolio x = priced();
        is(2, () -> x.price(0, 100, 9));
        is(9, () -> x.priceAt(0, 100));
        is(9, () -> x.priceAt(0, 199));
        is(3, () -> x.price(0, 101, 8));
        is(3, () -> x.price(0, 200, 6));
        is(4, () -> x.price(0, 99, 5));
        is(4, () -> x.price(0, 99, 4));
        is(4, () -> x.priceAt(0, 99));
        is(9, () -> x.priceAt(0, 100));
        is(8, () -> x.priceAt(0, 101));
        is(6, () -> x.priceAt(0, 200));
        at = "4 price: for how many DAYS one of that STOCK is told";
        is(1, () -> x.price(1, 100, 9));
    }

    private static void pricesOfFiveHundredDays() {
        at = "4 price: of many DAYS";
        for (int step : new int[] {1, -1}) {
            Lotfolio x = new Lotfolio();
            for (int i = 0; i < 500; i++) {
                int told = i;
                is(told + 1, () -> x.price(2, 5000 + step * told, told));
            }
            is(499, () -> x.priceAt(2, 5000 + step * 499));
            is(250, () -> x.priceAt(2, 5000 + step * 250));
            is(step > 0 ? 499 : 0, () -> x.priceAt(2, 9999));
        }
    }

    private static void thePriceAtADay() {
        at = "5 priceAt: that of the latest DAY up to it";
        Lotfolio x = priced();
        is(7, () -> x.priceAt(0, 100));
        is(7, () -> x.priceAt(0, 199));
        is(0, () -> x.priceAt(0, 200));
        is(0, () -> x.priceAt(0, 9999));
        at = "5 priceAt: there is none";
        refused(PRICE, DayEdgeTest::priced, y -> y.priceAt(0, 99), y -> y.priceAt(0, 0), y -> y.priceAt(1, 9999));
        at = "5 priceAt: an argument is out of range";
        ends(ARGUMENT, () -> told(0), 0, 5, (y, stock) -> y.priceAt(stock, 0));
        ends(ARGUMENT, () -> told(0), 0, 9999, (y, day) -> y.priceAt(0, day));
        at = "5 priceAt: IllegalArgumentException ahead of NoSuchElementException";
        refused(ARGUMENT, Lotfolio::new, y -> y.priceAt(6, 0), y -> y.priceAt(0, 10000), y -> y.priceAt(0, -1));
        at = "5 priceAt: asking changes nothing";
        asked(DayEdgeTest::priced, y -> y.priceAt(0, 150));
    }

    // ---- 13

    /** An object with PRICES of all STOCKS, of this many cents from DAY 0 on. */
    private static Lotfolio told(int cents) {
        Lotfolio x = new Lotfolio();
        for (int stock = 0; stock < 6; stock++) {
            x.price(stock, 0, cents);
        }
        return x;
    }

    /** The dates of the BUYS that a plan tells. */
    private static void dates(int year, int month, int dayOfMonth, int months, int... want) {
        Lotfolio x = told(1);
        is(want.length, () -> x.plan(0, x.day(year, month, dayOfMonth), months, 1));
        for (int i = 0; i < want.length; i++) {
            int order = i;
            is(want[i], () -> x.date(x.order(order, 1)));
        }
    }

    private static void argumentsOfPlan() {
        at = "13 plan: stock is out of range";
        ends(ARGUMENT, () -> told(1), 0, 5, (x, stock) -> x.plan(stock, 100, 2, 1));
        at = "13 plan: day is out of range";
        ends(ARGUMENT, () -> told(1), 0, 9999, (x, day) -> x.plan(0, day, 1, 1));
        at = "13 plan: months are out of range";
        ends(ARGUMENT, () -> told(2), 1, 24, (x, months) -> x.plan(0, 100, months, 1));
        at = "13 plan: MONEY is out of range";
        ends(ARGUMENT, () -> told(99999), 1, 9999999, (x, money) -> x.plan(0, 100, 2, money));
        at = "13 plan: a DAY would be out of range";
        dates(2027, 4, 18, 2, 20270419, 20270518);
        dates(2027, 5, 15, 1, 20270517);
        dates(2027, 5, 18, 1, 20270518);
        Supplier<Lotfolio> one = () -> told(1);
        refused(ARGUMENT, one, x -> x.plan(0, x.day(2027, 4, 19), 2, 1), x -> x.plan(0, 9999, 2, 1),
            x -> x.plan(0, x.day(2025, 6, 19), 24, 1), x -> x.plan(0, 9999, 24, 1));
        at = "13 plan: a DAY would be out of range, though no unit is bought then";
        refused(ARGUMENT, () -> told(2), x -> x.plan(0, 9999, 2, 1));
        Lotfolio full = told(9);
        is(0, () -> full.plan(0, full.day(2025, 6, 18), 24, 1));
    }

    private static void argumentsAreLookedAtFirst() {
        at = "13 plan: IllegalArgumentException ahead of IllegalStateException";
        refused(ARGUMENT, () -> full(60), x -> x.plan(6, 100, 1, 1), x -> x.plan(0, 10000, 1, 1),
            x -> x.plan(0, 99, 0, 1), x -> x.plan(0, 99, 25, 1), x -> x.plan(0, 99, 1, 0),
            x -> x.plan(0, 99, 1, 10000000), x -> x.plan(0, 9999, 2, 1));
    }

    private static void onTheSameDayOfTheMonth() {
        at = "13 plan: of a month that has not so many the last one";
        dates(2001, 1, 31, 3, 20010131, 20010228, 20010402);
        dates(2008, 1, 31, 2, 20080131, 20080229);
        dates(2008, 1, 30, 2, 20080130, 20080229);
        dates(2008, 1, 29, 2, 20080129, 20080229);
        dates(2008, 2, 29, 3, 20080229, 20080331, 20080429);
        at = "13 plan: on the Monday behind, if that is a Saturday or a Sunday";
        dates(2000, 1, 1, 2, 20000103, 20000201);
        dates(2000, 1, 2, 1, 20000103);
        dates(2000, 1, 3, 1, 20000103);
        dates(2000, 1, 7, 1, 20000107);
        at = "13 plan: that Monday may be in the month behind, or in the YEAR behind";
        dates(2000, 4, 30, 2, 20000501, 20000530);
        dates(2005, 12, 31, 2, 20060102, 20060131);
        at = "13 plan: through the turn of the YEAR, and for 24 months";
        dates(2002, 12, 10, 2, 20021210, 20030110);
        dates(2002, 11, 29, 2, 20021129, 20021230);
        Lotfolio x = told(1);
        for (int month = 0; month < 20; month++) {
            x.price(0, x.day(2003 + month / 12, month % 12 + 1, 2), 2);
        }
        x.price(0, x.day(2004, 9, 1), 1);
        is(5, () -> x.plan(0, x.day(2003, 1, 2), 24, 1) + x.plan(0, x.day(2004, 12, 3), 1, 1));
        is(20040902, () -> x.date(x.order(0, 1)));
        is(20041202, () -> x.date(x.order(3, 1)));
    }

    /** A plan of one month at one PRICE: the units of its BUY, or that none came. */
    private static void buys(int cents, int money, int units) {
        Lotfolio x = told(cents);
        is(units > 0 ? 1 : 0, () -> x.plan(5, 100, 1, money));
        is(units > 0 ? 1 : 0, x::orders);
        if (units > 0) {
            int[] due = {0, 100, 5, units, cents, 0, 0, 0};
            for (int i = 0; i < 8; i++) {
                int what = i;
                is(due[what], () -> x.order(0, what));
            }
            lot(x, 5, 0, 0, 100, units, (long) units * cents, units);
        }
    }

    private static void asManyUnitsAsTheMoneyPays() {
        at = "13 plan: as many units as the MONEY pays, without a fee";
        buys(100, 100, 1);
        buys(100, 199, 1);
        buys(100, 200, 2);
        buys(99999, 9999999, 100);
        at = "13 plan: none, if that is none";
        buys(100, 99, 0);
        buys(99999, 1, 0);
        at = "13 plan: none, if that is above 9999";
        buys(1, 9999, 9999);
        buys(1, 10000, 0);
        buys(1, 9999999, 0);
        buys(1000, 9999999, 9999);
        buys(999, 9999999, 0);
    }

    private static void atThePriceOfThatDay() {
        at = "13 plan: at the PRICE AT that DAY, the Monday";
        Lotfolio x = told(10);
        x.price(0, 1, 20);
        x.price(0, 2, 30);
        x.price(0, 3, 40);
        is(1, () -> x.plan(0, 0, 1, 120));
        is(4, () -> x.order(0, 3));
        is(30, () -> x.order(0, 4));
        at = "13 plan: a PRICE is not told";
        Supplier<Lotfolio> late = () -> {
            Lotfolio y = new Lotfolio();
            y.price(0, 3, 5);
            y.price(0, 40, 5);
            return y;
        };
        refused(STATE, late, y -> y.plan(0, 0, 1, 5), y -> y.plan(0, 2, 3, 5), y -> y.plan(1, 3, 1, 5));
        Lotfolio y = late.get();
        is(1, () -> y.plan(0, 3, 1, 5));
        at = "13 plan: a PRICE is not told, though the other BUYS could be";
        refused(STATE, late, z -> z.plan(0, 0, 2, 4));
        at = "13 plan: a PRICE is 0";
        refused(STATE, () -> told(0), z -> z.plan(0, 3, 1, 5));
        Supplier<Lotfolio> worthless = () -> {
            Lotfolio z = told(5);
            z.price(0, 60, 0);
            return z;
        };
        refused(STATE, worthless, z -> z.plan(0, 3, 3, 5), z -> z.plan(0, 3, 3, 1));
        is(2, () -> worthless.get().plan(0, 3, 2, 5));
    }

    private static void allOrNone() {
        at = "13 plan: a BUY cannot be told: 60 ORDERS";
        Supplier<Lotfolio> nearly = () -> {
            Lotfolio x = full(58);
            x.price(0, 0, 5);
            return x;
        };
        Lotfolio x = nearly.get();
        is(2, () -> x.plan(0, 100, 2, 5));
        is(60, x::orders);
        is(0, () -> x.plan(0, 100, 2, 4));
        refused(STATE, nearly, y -> y.plan(0, 100, 3, 5));
        at = "13 plan: a BUY cannot be told: the DAY is below that of the last ORDER";
        refused(STATE, nearly, y -> y.plan(0, 97, 2, 5), y -> y.plan(0, 97, 1, 5));
        is(0, () -> nearly.get().plan(0, 97, 2, 4));
        is(2, () -> nearly.get().plan(0, 98, 2, 5));
        at = "13 plan: only the DAYS on which units are bought count";
        Lotfolio dear = nearly.get();
        dear.price(0, 0, 9);
        dear.price(0, 110, 5);
        is(1, () -> dear.plan(0, 83, 2, 5));
        is(20000424, () -> dear.date(dear.order(58, 1)));
        at = "13 plan: a BUY cannot be told: the STOCK would have 11 LOTS";
        Supplier<Lotfolio> eight = () -> {
            Lotfolio z = lots(8);
            z.price(0, 0, 5);
            z.price(1, 0, 5);
            return z;
        };
        Lotfolio z = eight.get();
        is(2, () -> z.plan(0, 200, 2, 5));
        is(10, () -> z.lots(0));
        is(10, () -> z.plan(1, 400, 10, 5));
        is(0, () -> z.plan(0, 800, 1, 4));
        refused(STATE, eight, y -> y.plan(0, 200, 3, 5), y -> y.plan(1, 200, 11, 5));
    }

    private static void aPlannedBuyMeetsLosses() {
        at = "13 plan: BUYS like others: losses are matched with them";
        Lotfolio x = new Lotfolio();
        x.buy(0, 100, 4, 100, 0);
        x.sell(0, 200, 4, 90, 0, 0);
        x.price(0, 0, 10);
        is(2, () -> x.plan(0, 213, 2, 10));
        piece(x, 1, 0, 0, 4, 400, -30, 0, 10, 0);
        lot(x, 0, 0, 1, 213, 1, 20, 0);
        lot(x, 0, 1, 2, 244, 1, 10, 1);
    }

    public static void main(String[] args) {
        aNewObjectHasNoOrders();
        aNewObjectHasNoPrices();
        bandsAreFrom0To1000();
        eachMonthHasItsDays();
        thereIsNoSuchDate();
        aDateThatIsNoDay();
        aDayThatIsNone();
        argumentsOfPrice();
        aPriceInPlaceOfOneOfTheSameDay();
        pricesOfFiveHundredDays();
        thePriceAtADay();
        argumentsOfPlan();
        argumentsAreLookedAtFirst();
        onTheSameDayOfTheMonth();
        asManyUnitsAsTheMoneyPays();
        atThePriceOfThatDay();
        allOrNone();
        aPlannedBuyMeetsLosses();
        Check.end();
    }
}
