import java.util.function.Supplier;

/** Boundary cases of "2 Lots" and of what tells of LOTS, sums and YEARS: promises 19 to 21 and 24 to 27. */
final class LotEdgeTest extends Edges {

    // ---- what a BUY, a PAY, an AGAIN make

    private static void lotsAreNumberedOverAllStocks() {
        at = "2 Lots: LOTS are numbered over all STOCKS as they come";
        Lotfolio x = new Lotfolio();
        x.buy(5, 0, 1, 1, 0);
        x.buy(0, 0, 1, 1, 0);
        x.pay(0, 0, 1);
        x.again(5, 0, 1, 1);
        x.again(5, 0, 0, 1);
        x.spin(0, 0, 1, 1, 1, 0);
        x.spin(0, 0, 2, 1, 2, 0);
        x.merge(0, 0, 3, 1, 1, 0);
        x.buy(0, 0, 1, 1, 0);
        is(0, () -> x.lot(5, 0, 0));
        is(2, () -> x.lot(5, 1, 0));
        is(3, () -> x.lot(1, 0, 0));
        is(0, () -> x.lots(2));
        is(1, () -> x.lot(3, 0, 0));
        is(4, () -> x.lot(0, 0, 0));
    }

    private static void aLotOfTheLeastAndOneOfTheGreatest() {
        at = "2 Lots: BUY of the least NUMBERS";
        Lotfolio x = new Lotfolio();
        x.buy(0, 0, 1, 0, 0);
        lot(x, 0, 0, 0, 0, 1, 0, 1);
        sums(x, 0, 0, 0, 0, 0, 0, 0, 0);
        at = "2 Lots: BUY of the greatest NUMBERS: COST is the units times the price, and the fee";
        x.buy(5, 9999, 9999, 99999, 9999);
        lot(x, 5, 0, 1, 9999, 9999, 999900000, 9999);
        sums(x, -999900000, 999900000, 0, 0, 0, 0, 999900000, 0);
    }

    private static void manyGreatLots() {
        at = "2 Lots: sums beyond the 32 bits";
        Lotfolio x = new Lotfolio();
        for (int i = 0; i < 60; i++) {
            x.buy(i / 10, 0, 9999, 99999, 9999);
        }
        long all = 60 * 999900000L;
        sums(x, -all, all, 0, 0, 0, 0, all, 0);
        for (int i = 0; i < 6; i++) {
            int stock = i;
            is(100000, () -> x.mean(stock));
            is(9999000000L, () -> x.given(stock, 99990, 6, 0));
        }
    }

    private static void aPayForNoUnits() {
        at = "2 Lots: PAY for a STOCK without LOTS";
        Lotfolio x = new Lotfolio();
        x.pay(0, 0, 9999);
        sums(x, 0, 0, 0, 0, 0, 0, 0, 0);
        is(0, () -> x.income(2000));
        at = "2 Lots: PAY is by all units of the STOCK alone";
        Lotfolio y = lotted(lots(10), 1, 200, 1);
        y.pay(0, 200, 1);
        is(100, () -> y.income(2000));
        y.pay(1, 200, 0);
        is(100, () -> y.income(2000));
        sums(y, -1001 + 100, 1001, 0, 100, 0, 0, 1001, 0);
    }

    /** AGAIN for 10 units: what comes of so many cents at a price. */
    private static void again(int cents, int price, int units) {
        Lotfolio x = lots(1);
        x.again(0, 200, cents, price);
        is(units > 0 ? 2 : 1, () -> x.lots(0));
        is(10 * cents, () -> x.income(2000));
        if (units > 0) {
            lot(x, 0, 1, 1, 200, units, (long) units * price, units);
        }
        long spent = (long) units * price;
        sums(x, -100 + 10 * cents - spent, 100 + spent, 0, 10 * cents, 0, 0, 100 + spent, 0);
    }

    private static void anAgainBuysWholeUnits() {
        at = "2 Lots: AGAIN, as many whole units as the money pays";
        again(3, 30, 1);
        again(3, 29, 1);
        again(3, 16, 1);
        again(3, 15, 2);
        again(9999, 1, 99990);
        again(9999, 99999, 0);
        at = "2 Lots: AGAIN, none, if that is none";
        again(3, 31, 0);
        again(0, 1, 0);
        Lotfolio x = new Lotfolio();
        is(0, () -> x.again(0, 0, 9999, 1));
        is(0, () -> x.lots(0));
        sums(x, 0, 0, 0, 0, 0, 0, 0, 0);
    }

    // ---- to CHANGE units

    /** LOTS of such units, each for 1000 cents, of one DAY behind the other. */
    private static Lotfolio of(int... units) {
        Lotfolio x = new Lotfolio();
        for (int i = 0; i < units.length; i++) {
            x.buy(0, i, units[i], 0, 1000);
        }
        return x;
    }

    /** Numbers, units and COST of the LOTS of a STOCK. */
    private static void left(Lotfolio x, int stock, long... want) {
        is(want.length / 3, () -> x.lots(stock));
        for (int i = 0; i < want.length; i++) {
            int value = i;
            is(want[value], () -> x.lot(stock, value / 3, value % 3 == 0 ? 0 : 1 + value % 3));
        }
    }

    private static Lotfolio split(Lotfolio x, int a, int b, int price) {
        x.split(0, 100, a, b, price);
        return x;
    }

    private static void eachHasItsPartOfAllUpToIt() {
        at = "2 Lots: CHANGE, each has that less the same of those ahead of it";
        left(split(of(1, 1, 1), 1, 2, 0), 0, 1, 1, 3000);
        left(split(of(1, 1, 1, 1), 1, 2, 0), 0, 1, 1, 2000, 3, 1, 2000);
        left(split(of(3, 3, 3), 2, 3, 0), 0, 0, 2, 1000, 1, 2, 1000, 2, 2, 1000);
        left(split(of(1, 1, 1), 5, 3, 0), 0, 0, 1, 1000, 1, 2, 1000, 2, 2, 1000);
        left(split(of(7), 10, 10, 0), 0, 0, 7, 1000);
        left(split(of(9999), 10, 1, 0), 0, 0, 99990, 1000);
        left(split(of(9999), 1, 10, 0), 0, 0, 999, 1000);
        at = "2 Lots: CHANGE of ten LOTS";
        left(split(of(1, 1, 1, 1, 1, 1, 1, 1, 1, 1), 1, 10, 0), 0, 9, 1, 10000);
        left(split(of(1, 1, 1, 1, 1, 1, 1, 1, 1, 1), 1, 5, 0), 0, 4, 1, 5000, 9, 1, 5000);
        at = "2 Lots: CHANGE of no LOT";
        left(split(new Lotfolio(), 10, 1, 0), 0);
    }

    private static void theCostOfALotThatGoes() {
        at = "2 Lots: COST of a LOT that goes comes to the next LOT in order";
        left(split(of(1, 5), 1, 2, 0), 0, 1, 3, 2000);
        left(split(of(1, 1, 1, 1), 1, 3, 0), 0, 2, 1, 4000);
        at = "2 Lots: COST of a LOT that goes comes to the one ahead, without a next one";
        left(split(of(2, 1), 1, 2, 0), 0, 0, 1, 2000);
        left(split(of(3, 1, 1), 1, 3, 0), 0, 0, 1, 3000);
        at = "2 Lots: COST is LOST without any LOT";
        Lotfolio x = split(of(1, 1), 1, 3, 0);
        left(x, 0);
        is(-2000, () -> x.gains(2000, false));
        is(0, () -> x.gains(2000, true));
        sums(x, -2000, 0, -2000, 0, 0, 0, 2000, 0);
        Lotfolio y = of(1);
        y.split(0, 9999, 1, 10, 0);
        is(-1000, () -> y.gains(2027, false));
        is(0, () -> y.gains(2027, true));
        Lotfolio none = lotted(new Lotfolio(), 0, 0, 1);
        none.correct(0, 1, 0);
        none.split(0, 0, 1, 2, 0);
        sums(none, 0, 0, 0, 0, 0, 0, 0, 0);
    }

    private static void brought(int units, int a, int b, int price, long want) {
        Lotfolio x = split(of(units), a, b, price);
        is(want, () -> x.sum(4));
        is(want - 1000, () -> x.sum(0));
    }

    private static void thePartLeft() {
        at = "2 Lots: the part left is none";
        brought(10, 1, 10, 99999, 0);
        brought(7, 10, 1, 99999, 0);
        brought(6, 5, 3, 99999, 0);
        at = "2 Lots: the part left is the remainder: it brings that, times the price, divided by b";
        brought(9, 1, 10, 99999, 89999);
        brought(19, 1, 10, 1, 0);
        brought(19, 1, 10, 2, 1);
        brought(11, 1, 10, 9, 0);
        brought(11, 1, 10, 10, 1);
        brought(2, 5, 3, 100, 33);
        brought(19, 1, 10, 0, 0);
        at = "2 Lots: the part left is of all units, not of each LOT";
        Lotfolio x = split(of(1, 1), 1, 2, 99999);
        is(0, () -> x.sum(4));
    }

    private static void backAndForth() {
        for (int a = 1; a <= 10; a++) {
            at = "(3) a SPLIT of " + a + " for 1, and 1 for " + a;
            Lotfolio x = split(split(of(1, 2, 3, 4, 5, 6, 7, 8, 9, 9999), a, 1, 99), 1, a, 99);
            for (int place = 0; place < 10; place++) {
                lot(x, 0, place, place, place, place == 9 ? 9999 : place + 1, 1000, 0);
            }
            sums(x, -10000, 10000, 0, 0, 0, 0, 10000, 0);
        }
    }

    // ---- SPLIT, SPIN, MERGER

    /** Both STOCKS, and a third one, with FREE units and a loss that waits, of DAY 1. */
    private static Lotfolio waiting() {
        Lotfolio x = new Lotfolio();
        for (int stock = 0; stock < 3; stock++) {
            x.buy(stock, 0, 2, 10, 0);
        }
        for (int stock = 0; stock < 3; stock++) {
            x.sell(stock, 1, 1, 5, 0, 0);
        }
        return x;
    }

    private static void noFreeUnitsAndNoLossThatWaits() {
        for (int kind : new int[] {SPLIT, SPIN, MERGER}) {
            at = "2 Lots: no FREE units, and no loss waits, behind KIND " + kind;
            Lotfolio x = waiting();
            tell(x, kind, 0, 1, PLAIN[kind]);
            for (int i = 0; i < 3; i++) {
                int stock = i;
                boolean done = stock == 0 || stock == 1 && kind != SPLIT;
                is(done ? 0 : 1, () -> x.piece(3 + stock, 0, 6));
                for (int place = 0; place < x.lots(stock); place++) {
                    int p = place;
                    is(done ? 0 : 1, () -> x.lot(stock, p, 4));
                }
                x.buy(stock, 1, 1, 5, 0);
                is(done ? -5 : 0, () -> x.piece(3 + stock, 0, 3));
                is(done ? 0 : 5, () -> x.piece(3 + stock, 0, 5));
            }
        }
        for (int kind : new int[] {SPIN, MERGER}) {
            at = "2 Lots: the same of both STOCKS, though nothing comes, behind KIND " + kind;
            Lotfolio x = waiting();
            tell(x, kind, 5, 1, 0, 1, 1, 0);
            is(0, () -> x.lot(0, 0, 4));
            is(0, () -> x.piece(3, 0, 6));
            Lotfolio y = waiting();
            tell(y, kind, 0, 1, 5, 1, 10, 0);
            is(0, () -> y.piece(3, 0, 6));
            is(1, () -> y.piece(4, 0, 6));
            is(1, () -> y.lot(1, 0, 4));
        }
    }

    private static void whatASpinGives() {
        at = "2 Lots: SPIN with a part of 0";
        Lotfolio none = of(3);
        none.spin(0, 100, 1, 1, 1, 0);
        lot(none, 0, 0, 0, 0, 3, 1000, 0);
        lot(none, 1, 0, 1, 0, 3, 0, 0);
        at = "2 Lots: SPIN with a part of 1000";
        Lotfolio all = of(3);
        all.spin(0, 100, 1, 1, 1, 1000);
        lot(all, 0, 0, 0, 0, 3, 0, 0);
        lot(all, 1, 0, 1, 0, 3, 1000, 0);
        at = "2 Lots: SPIN, COST times the part, divided by 1000, rounded down";
        Lotfolio part = new Lotfolio();
        part.buy(0, 0, 1, 999, 0);
        part.spin(0, 0, 1, 1, 1, 1);
        is(0, () -> part.lot(1, 0, 3));
        is(999, () -> part.lot(0, 0, 3));
        part.spin(0, 0, 2, 1, 1, 999);
        is(998, () -> part.lot(2, 0, 3));
        is(1, () -> part.lot(0, 0, 3));
        at = "2 Lots: SPIN, none comes, if that is none, and the LOT has nothing less";
        Lotfolio less = of(1, 1, 3);
        less.spin(0, 100, 1, 1, 2, 500);
        left(less, 0, 0, 1, 1000, 1, 1, 500, 2, 3, 500);
        left(less, 1, 3, 1, 500, 4, 1, 500);
        is(1, () -> less.lot(1, 0, 1));
        is(2, () -> less.lot(1, 1, 1));
        at = "2 Lots: SPIN of a STOCK without LOTS";
        Lotfolio no = new Lotfolio();
        is(0, () -> no.spin(0, 0, 1, 10, 1, 1000));
        is(0, () -> no.lots(1));
        at = "2 Lots: SPIN, a new LOT, though one of that DAY is there";
        Lotfolio two = of(1);
        two.spin(0, 100, 1, 1, 1, 100);
        two.spin(0, 100, 1, 1, 1, 100);
        left(two, 1, 1, 1, 100, 2, 1, 90);
        at = "2 Lots: SPIN brings no part that is left";
        sums(two, -1000, 1000, 0, 0, 0, 0, 1000, 0);
    }

    private static void whatAMergerGives() {
        at = "2 Lots: MERGER, with their DAYS, numbers and COST, in ORDER OF DAYS";
        Lotfolio x = new Lotfolio();
        x.buy(1, 5, 1, 100, 0);
        x.buy(0, 5, 2, 100, 0);
        x.buy(0, 7, 3, 100, 0);
        x.buy(1, 7, 4, 100, 0);
        x.buy(1, 9, 5, 100, 0);
        x.merge(1, 9, 0, 1, 1, 0);
        left(x, 0, 0, 1, 100, 1, 2, 200, 2, 3, 300, 3, 4, 400, 4, 5, 500);
        left(x, 1);
        at = "2 Lots: MERGER of a STOCK without LOTS";
        x.merge(5, 9, 0, 10, 1, 0);
        is(5, () -> x.lots(0));
        at = "2 Lots: MERGER, what is LOST, and the part left";
        x.merge(0, 9, 5, 1, 10, 10);
        left(x, 5, 3, 1, 1500);
        is(5, () -> x.sum(4));
        x.merge(5, 9, 4, 1, 10, 100);
        is(0, () -> x.lots(4));
        sums(x, -1500 + 15, 0, -1500, 0, 15, 0, 1500, 0);
    }

    // ---- 19 to 21

    private static Lotfolio ten() {
        return lots(10);
    }

    private static void howManyLots() {
        at = "19 lots: a STOCK without LOTS, and one with 10";
        is(0, () -> new Lotfolio().lots(0));
        is(10, () -> ten().lots(0));
        is(0, () -> ten().lots(5));
        at = "19 lots: there is no such STOCK";
        ends(ARGUMENT, LotEdgeTest::ten, 0, 5, Lotfolio::lots);
        at = "19 lots: asking changes nothing";
        asked(LotEdgeTest::ten, x -> x.lots(0), x -> x.lots(5));
    }

    private static void whatALotTells() {
        at = "20 lot: there is no such place";
        ends(PLACE, LotEdgeTest::ten, 0, 9, (x, place) -> x.lot(0, place, 0));
        ends(PLACE, () -> lots(1), 0, 0, (x, place) -> x.lot(0, place, 4));
        refused(PLACE, LotEdgeTest::ten, x -> x.lot(1, 0, 0), x -> x.lot(5, 0, 4));
        refused(PLACE, Lotfolio::new, x -> x.lot(0, 0, 0));
        at = "20 lot: there is no such STOCK";
        refused(ARGUMENT, LotEdgeTest::ten, x -> x.lot(-1, 0, 0), x -> x.lot(6, 0, 0), x -> x.lot(MIN, 0, 0),
            x -> x.lot(MAX, 0, 0));
        at = "20 lot: there is no such what";
        ends(ARGUMENT, LotEdgeTest::ten, 0, 4, (x, what) -> x.lot(0, 0, what));
        at = "20 lot: IllegalArgumentException ahead of IndexOutOfBoundsException";
        refused(ARGUMENT, LotEdgeTest::ten, x -> x.lot(0, 10, 5), x -> x.lot(0, -1, -1), x -> x.lot(6, 10, 0),
            x -> x.lot(-1, MIN, 5), x -> x.lot(1, 0, 5));
        at = "20 lot: the first and the last one";
        lot(ten(), 0, 0, 0, 100, 10, 100, 10);
        lot(ten(), 0, 9, 9, 109, 10, 100, 10);
        at = "20 lot: asking changes nothing";
        asked(LotEdgeTest::ten, x -> x.lot(0, 9, 4));
    }

    private static void howManyPieces() {
        at = "21 pieces: 0 for another ORDER";
        Lotfolio x = rich(3, 100);
        for (int kind = 2; kind < KINDS; kind++) {
            tell(x, kind, 3, 100, PLAIN[kind]);
        }
        for (int i = 0; i < x.orders(); i++) {
            int order = i;
            is(0, () -> x.pieces(order));
        }
        at = "21 pieces: one, and ten";
        Supplier<Lotfolio> sold = () -> {
            Lotfolio y = ten();
            y.sell(0, 200, 1, 1, 0, 0);
            y.sell(0, 200, 99, 1, 0, 0);
            return y;
        };
        is(1, () -> sold.get().pieces(10));
        is(10, () -> sold.get().pieces(11));
        at = "21 pieces: there is no such ORDER";
        ends(PLACE, sold, 0, 11, Lotfolio::pieces);
        ends(PLACE, () -> full(60), 0, 59, Lotfolio::pieces);
        refused(PLACE, Lotfolio::new, y -> y.pieces(0));
        at = "21 pieces: asking changes nothing";
        asked(sold, y -> y.pieces(11));
    }

    // ---- 24 to 27

    private static void costForEachUnit() {
        at = "24 mean: it has no units";
        refused(ArithmeticException.class, Lotfolio::new, x -> x.mean(0), x -> x.mean(5));
        refused(ArithmeticException.class, () -> split(of(1), 1, 2, 0), x -> x.mean(0));
        at = "24 mean: there is no such STOCK, ahead of: it has no units";
        ends(ARGUMENT, () -> everywhere(1), 0, 5, Lotfolio::mean);
        refused(ARGUMENT, Lotfolio::new, x -> x.mean(6), x -> x.mean(-1));
        at = "24 mean: rounded down";
        Lotfolio x = new Lotfolio();
        x.buy(0, 0, 3, 1, 2);
        is(1, () -> x.mean(0));
        x.correct(0, 2, 3);
        is(2, () -> x.mean(0));
        x.correct(0, 1, 0);
        x.correct(0, 2, 2);
        is(0, () -> x.mean(0));
        at = "24 mean: of ten LOTS";
        is(10, () -> ten().mean(0));
        Lotfolio many = ten();
        many.correct(9, 2, 99);
        is(10, () -> many.mean(0));
        many.correct(9, 2, 100);
        is(11, () -> many.mean(0));
        at = "24 mean: asking changes nothing";
        asked(LotEdgeTest::ten, y -> y.mean(0));
    }

    /** One LOT of one unit of each STOCK. */
    private static Lotfolio everywhere(int price) {
        Lotfolio x = new Lotfolio();
        for (int stock = 0; stock < 6; stock++) {
            x.buy(stock, 0, 1, price, 0);
        }
        return x;
    }

    private static void sumsOfAll() {
        at = "25 sum: what is out of range";
        ends(ARGUMENT, LotEdgeTest::ten, 0, 7, Lotfolio::sum);
        ends(ARGUMENT, Lotfolio::new, 0, 7, Lotfolio::sum);
        at = "25 sum: of all STOCKS";
        sums(everywhere(7), -42, 42, 0, 0, 0, 0, 42, 0);
        at = "25 sum: asking changes nothing";
        asked(LotEdgeTest::ten, x -> x.sum(0), x -> x.sum(7));
    }

    private static void gainsOfTheYears() {
        at = "26 gains: year is not 2000 to 2027";
        ends(ARGUMENT, LotEdgeTest::ten, 2000, 2027, (x, year) -> x.gains(year, false));
        ends(ARGUMENT, LotEdgeTest::ten, 2000, 2027, (x, year) -> x.gains(year, true));
        at = "26 gains: of the first DAY of a YEAR, and of the last one";
        for (int year = 2000; year <= 2026; year++) {
            int y = year;
            Lotfolio x = new Lotfolio();
            int first = x.day(y, 1, 1);
            int last = x.day(y, 12, 31);
            x.buy(0, first, 9, 10, 0);
            x.sell(0, first, 1, 11, 0, 0);
            x.sell(0, last, 1, 12, 0, 0);
            x.sell(0, last + 1, 1, 14, 0, 0);
            is(3, () -> x.gains(y, false));
            is(0, () -> x.gains(y, true));
            is(4, () -> x.gains(y + 1, false));
        }
        Lotfolio x = new Lotfolio();
        x.buy(0, 9999, 1, 10, 0);
        x.sell(0, 9999, 1, 12, 0, 0);
        is(2, () -> x.gains(2027, false));
        at = "26 gains: asking changes nothing";
        asked(LotEdgeTest::ten, y -> y.gains(2000, false));
    }

    private static void incomeOfTheYears() {
        at = "27 income: year is not 2000 to 2027";
        ends(ARGUMENT, LotEdgeTest::ten, 2000, 2027, Lotfolio::income);
        at = "27 income: in the first YEAR and in the last one";
        Lotfolio x = everywhere(1);
        x.pay(5, 0, 3);
        x.pay(0, 365, 4);
        x.again(0, 366, 5, 9);
        x.again(0, 9999, 6, 9);
        is(7, () -> x.income(2000));
        is(5, () -> x.income(2001));
        is(6, () -> x.income(2027));
        is(18, () -> x.sum(3));
        at = "27 income: asking changes nothing";
        asked(LotEdgeTest::ten, y -> y.income(2027));
    }

    public static void main(String[] args) {
        lotsAreNumberedOverAllStocks();
        aLotOfTheLeastAndOneOfTheGreatest();
        manyGreatLots();
        aPayForNoUnits();
        anAgainBuysWholeUnits();
        eachHasItsPartOfAllUpToIt();
        theCostOfALotThatGoes();
        thePartLeft();
        backAndForth();
        noFreeUnitsAndNoLossThatWaits();
        whatASpinGives();
        whatAMergerGives();
        howManyLots();
        whatALotTells();
        howManyPieces();
        costForEachUnit();
        sumsOfAll();
        gainsOfTheYears();
        incomeOfTheYears();
        Check.end();
    }
}
