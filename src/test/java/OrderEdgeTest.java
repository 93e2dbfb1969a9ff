import java.util.function.Supplier;

/** Boundary cases of "1 The log" and of what tells ORDERS: promises 6 to 12 and 14 to 18, a test a sentence. */
final class OrderEdgeTest extends Edges {
    private static final String[] NAMES = {"6 buy", "7 sell", "8 split", "9 pay", "10 again", "11 spin", "12 merge"};
    /** A STOCK for what a KIND needs another one for is 1, so the plain ORDERS are on this one. */
    private static final int STOCK = 3;
    private static final int DAY = 100;

    private static Supplier<Lotfolio> rich() {
        return () -> rich(STOCK, DAY);
    }

    private static Lotfolio told(int kind, int... numbers) {
        Lotfolio x = rich(STOCK, DAY);
        tell(x, kind, STOCK, DAY, numbers);
        return x;
    }

    private static int plain(Lotfolio x, int kind, int stock, int day) {
        return tell(x, kind, stock, day, PLAIN[kind]);
    }

    // ---- of every KIND

    private static void eachNumberFromItsLeastToItsGreatest(int kind) {
        for (int i = 0; i < PLAIN[kind].length; i++) {
            int which = i;
            at = NAMES[kind] + ": NUMBER " + which + " out of range";
            ends(ARGUMENT, rich(), LEAST[kind][which], MOST[kind][which],
                (x, value) -> tell(x, kind, STOCK, DAY, with(kind, which, value)));
            for (int value : new int[] {LEAST[kind][which], MOST[kind][which]}) {
                at = NAMES[kind] + ": is told with NUMBER " + which + " of " + value;
                isAsTold(told(kind, with(kind, which, value)), kind, with(kind, which, value));
            }
        }
    }

    private static void isAsTold(Lotfolio x, int kind, int[] numbers) {
        is(4, x::orders);
        is(kind, () -> x.order(3, 0));
        is(DAY, () -> x.order(3, 1));
        is(STOCK, () -> x.order(3, 2));
        for (int i = 0; i < 5; i++) {
            int which = i;
            is(which < numbers.length ? numbers[which] : 0, () -> x.order(3, 3 + which));
        }
    }

    private static void theStockIs0To5(int kind) {
        at = NAMES[kind] + ": STOCKS are 0 to 5";
        for (int stock : new int[] {0, 5}) {
            Lotfolio x = rich(stock, DAY);
            is(3, () -> plain(x, kind, stock, DAY));
            is(stock, () -> x.order(3, 2));
        }
        refused(ARGUMENT, rich(), x -> plain(x, kind, -1, DAY), x -> plain(x, kind, 6, DAY),
            x -> plain(x, kind, MIN, DAY), x -> plain(x, kind, MAX, DAY));
    }

    private static void theDayIs0To9999(int kind) {
        at = NAMES[kind] + ": DAYS are 0 to 9999";
        for (int day : new int[] {0, 9999}) {
            Lotfolio x = rich(STOCK, 0);
            is(3, () -> plain(x, kind, STOCK, day));
            is(day, () -> x.order(3, 1));
        }
        refused(ARGUMENT, () -> rich(STOCK, 0), x -> plain(x, kind, STOCK, -1), x -> plain(x, kind, STOCK, 10000),
            x -> plain(x, kind, STOCK, MIN), x -> plain(x, kind, STOCK, MAX));
    }

    private static void noDayBelowThatOfTheLast(int kind) {
        at = NAMES[kind] + ": the DAY is below that of the last ORDER";
        Lotfolio x = rich(STOCK, DAY);
        is(3, () -> plain(x, kind, STOCK, DAY));
        Lotfolio later = rich(STOCK, DAY);
        is(3, () -> plain(later, kind, STOCK, DAY + 1));
        refused(STATE, rich(), y -> plain(y, kind, STOCK, DAY - 1), y -> plain(y, kind, STOCK, 0));
    }

    private static void sixtyOrdersAtMost(int kind) {
        at = NAMES[kind] + ": there are 60 ORDERS";
        Lotfolio x = rich(STOCK, DAY, 59);
        is(59, () -> plain(x, kind, STOCK, DAY));
        is(60, x::orders);
        refused(STATE, () -> rich(STOCK, DAY, 60), y -> plain(y, kind, STOCK, DAY));
    }

    private static void aNumberOutOfRangeIsThrownFirst(int kind) {
        at = NAMES[kind] + ": IllegalArgumentException ahead of IllegalStateException";
        for (int i = 0; i < PLAIN[kind].length; i++) {
            int[] wrong = with(kind, i, MOST[kind][i] + 1);
            refused(ARGUMENT, () -> rich(STOCK, DAY, 60), x -> tell(x, kind, STOCK, DAY, wrong),
                x -> tell(x, kind, STOCK, DAY - 1, wrong));
        }
        refused(ARGUMENT, () -> rich(STOCK, DAY, 60), x -> plain(x, kind, 6, DAY), x -> plain(x, kind, STOCK, 10000),
            x -> plain(x, kind, -1, DAY - 1));
    }

    private static void isPutRight(int kind) {
        for (int i = 0; i < PLAIN[kind].length; i++) {
            int which = i;
            for (int value : new int[] {LEAST[kind][which], MOST[kind][which]}) {
                at = "14 correct: NUMBER " + which + " of KIND " + kind + " to " + value;
                Lotfolio x = told(kind, PLAIN[kind]);
                is(PLAIN[kind][which], () -> x.correct(3, which, value));
                isAsTold(x, kind, with(kind, which, value));
                Check.alike(at, Snapshot.of(changedAside(x)), Snapshot.of(
                    changedAside(told(kind, with(kind, which, value)))));
            }
            at = "14 correct: NUMBER " + which + " of KIND " + kind + " would be out of its range";
            refused(STATE, () -> told(kind, PLAIN[kind]),
                x -> x.correct(3, which, LEAST[kind][which] - 1), x -> x.correct(3, which, MOST[kind][which] + 1),
                x -> x.correct(3, which, MIN), x -> x.correct(3, which, MAX));
        }
        at = "14 correct: KIND " + kind + " has no such NUMBER";
        int none = PLAIN[kind].length;
        refused(PLACE, () -> told(kind, PLAIN[kind]), x -> x.correct(3, none, 1), x -> x.correct(3, 4, 0),
            x -> x.correct(3, 5, 0), x -> x.correct(3, -1, 1), x -> x.correct(3, MIN, 1), x -> x.correct(3, MAX, 1));
    }

    /** Only changed() tells that an ORDER was put right: so one is, in both of two objects, to what it is. */
    private static Lotfolio changedAside(Lotfolio x) {
        x.correct(0, 1, 1);
        return x;
    }

    // ---- 6 to 12: what cannot be done

    private static void aBuyMakesNoEleventhLot() {
        at = "6 buy: the STOCK would have 11 LOTS";
        Lotfolio x = lots(9);
        is(9, () -> x.buy(0, 200, 1, 1, 0));
        is(10, () -> x.lots(0));
        refused(STATE, () -> lots(10), y -> y.buy(0, 200, 1, 1, 0));
        Lotfolio other = lots(10);
        is(10, () -> other.buy(1, 200, 1, 1, 0));
    }

    private static void aBuyMayExceedAMillionUnits() {
        at = "6 buy: no number of units is too great";
        Lotfolio x = holding(1000000 - 100);
        is(3, () -> x.buy(0, 0, 101, 1, 0));
        is(1000001, () -> x.unitsAt(0, 0));
    }

    private static void aSellNeedsTheUnits() {
        at = "7 sell: the STOCK has not so many units";
        for (int i = 0; i < 7; i++) {
            int custom = i;
            Lotfolio x = lots(10);
            is(10, () -> x.sell(0, 200, 100, 1, custom, 9));
            is(0, () -> x.lots(0));
            is(10, () -> x.pieces(10));
            refused(STATE, () -> lots(10), y -> y.sell(0, 200, 101, 1, custom, 9),
                y -> y.sell(0, 200, 99999, 1, custom, 9), y -> y.sell(1, 200, 1, 1, custom, 9));
            refused(STATE, Lotfolio::new, y -> y.sell(0, 200, 1, 1, custom, 0));
        }
    }

    private static void toldNeedsThatLotOfIt() {
        at = "7 sell: by TOLD there is no such LOT of it";
        Supplier<Lotfolio> two = () -> {
            Lotfolio x = lots(1);
            x.buy(1, 200, 10, 1, 0);
            return x;
        };
        Lotfolio x = two.get();
        is(2, () -> x.sell(1, 200, 1, 1, 4, 1));
        refused(STATE, two, y -> y.sell(0, 200, 1, 1, 4, 1), y -> y.sell(1, 200, 1, 1, 4, 0),
            y -> y.sell(0, 200, 1, 1, 4, 2), y -> y.sell(0, 200, 1, 1, 4, 999));
        refused(STATE, () -> sold(lots(2), 10, 0), y -> y.sell(0, 200, 1, 1, 4, 0));
        at = "7 sell: by the others there need be no such LOT";
        for (int i = 0; i < 7; i++) {
            int custom = i;
            Lotfolio y = lots(1);
            if (custom != 4) {
                is(1, () -> y.sell(0, 200, 1, 1, custom, 999));
            }
        }
    }

    private static Lotfolio sold(Lotfolio x, int units, int custom) {
        x.sell(0, 200, units, 100, custom, 0);
        return x;
    }

    private static void aSplitMakesAMillionUnitsAtMost() {
        at = "8 split: the STOCK would have more than 1000000 units";
        Lotfolio x = holding(100000);
        is(3, () -> x.split(0, 0, 10, 1, 0));
        is(1000000, () -> x.unitsAt(0, 0));
        Lotfolio part = holding(666667);
        is(4, () -> part.split(0, 0, 3, 2, 0));
        is(1000000, () -> part.unitsAt(0, 0));
        refused(STATE, () -> holding(428572), y -> y.split(0, 0, 7, 3, 0));
        refused(STATE, () -> holding(100001), y -> y.split(0, 0, 10, 1, 0));
        refused(STATE, () -> million(1), y -> y.split(0, 0, 1, 1, 0));
        Lotfolio more = million(1);
        is(6, () -> more.split(0, 0, 9, 10, 0));
        is(900000, () -> more.unitsAt(0, 0));
        Lotfolio none = new Lotfolio();
        is(0, () -> none.split(0, 0, 10, 1, 5));
        sums(none, 0, 0, 0, 0, 0, 0, 0, 0);
    }

    /** STOCK 0 with 1000000 units, and so many more that came by BUY; five ORDERS, six with more. */
    private static Lotfolio million(int more) {
        Lotfolio x = new Lotfolio();
        x.buy(0, 0, 1000, 1, 0);
        x.split(0, 0, 10, 1, 0);
        x.split(0, 0, 10, 1, 0);
        x.split(0, 0, 10, 1, 0);
        x.pay(0, 0, 0);
        if (more > 0) {
            x.buy(0, 0, more, 1, 0);
        }
        return x;
    }

    private static void aPayCanAlwaysBeDone() {
        at = "9 pay: what cannot be done there is none";
        Lotfolio x = new Lotfolio();
        is(0, () -> x.pay(0, 0, 9999));
        sums(x, 0, 0, 0, 0, 0, 0, 0, 0);
        Lotfolio ten = lots(10);
        is(10, () -> ten.pay(0, 200, 9999));
        is(999900, () -> ten.income(2000));
        Lotfolio more = million(9999);
        is(6, () -> more.pay(0, 0, 9999));
        is(1009999L * 9999, () -> more.income(2000));
    }

    private static void anAgainMakesNoEleventhLot() {
        at = "10 again: the STOCK would have 11 LOTS, if units are bought";
        Lotfolio nine = lots(9);
        is(9, () -> nine.again(0, 200, 1, 90));
        is(10, () -> nine.lots(0));
        Lotfolio none = lots(10);
        is(10, () -> none.again(0, 200, 1, 101));
        is(100, () -> none.income(2000));
        refused(STATE, () -> lots(10), y -> y.again(0, 200, 1, 100));
    }

    private static void anAgainMakesAMillionUnitsAtMost() {
        at = "10 again: the STOCK would have more than 1000000 units, if units are bought";
        Lotfolio x = holding(900000);
        is(3, () -> x.again(0, 0, 1, 9));
        is(1000000, () -> x.unitsAt(0, 0));
        refused(STATE, () -> holding(900001), y -> y.again(0, 0, 1, 9));
        refused(STATE, () -> million(0), y -> y.again(0, 0, 1, 99999), y -> y.again(0, 0, 9999, 1));
        Lotfolio none = million(1);
        is(6, () -> none.again(0, 0, 0, 1));
        is(1000001, () -> none.unitsAt(0, 0));
    }

    private static void theOtherStockIsAnother(int kind) {
        at = NAMES[kind] + ": both STOCKS are the same";
        for (int i = 0; i < 6; i++) {
            int stock = i;
            refused(ARGUMENT, () -> rich(stock, DAY), x -> tell(x, kind, stock, DAY, stock, 1, 1, 0));
        }
        refused(ARGUMENT, Lotfolio::new, x -> tell(x, kind, 0, 0, 0, 1, 1, 0));
        refused(ARGUMENT, () -> rich(STOCK, DAY, 60), x -> tell(x, kind, STOCK, DAY - 1, STOCK, 1, 1, 0));
        at = "14 correct: both STOCKS would be the same";
        refused(STATE, () -> told(kind, PLAIN[kind]), x -> x.correct(3, 0, STOCK));
    }

    private static void theOtherStockHasTenLotsAtMost(int kind) {
        at = NAMES[kind] + ": the other STOCK would have more than 10 LOTS";
        Lotfolio ten = lotted(lots(4), 1, 200, 6);
        is(10, () -> tell(ten, kind, 0, 200, 1, 1, 1, 0));
        is(10, () -> ten.lots(1));
        refused(STATE, () -> lotted(lots(5), 1, 200, 6), x -> tell(x, kind, 0, 200, 1, 1, 1, 0));
        at = NAMES[kind] + ": a LOT of which no units come does not count";
        Lotfolio less = lotted(lotted(lots(4), 0, 200, 1), 1, 200, 6);
        is(11, () -> tell(less, kind, 0, 200, 1, 1, 2, 0));
        is(10, () -> less.lots(1));
        at = NAMES[kind] + ": no LOT comes to ten";
        Lotfolio none = lotted(new Lotfolio(), 1, 0, 10);
        is(10, () -> tell(none, kind, 0, 0, 1, 10, 1, 0));
        is(10, () -> none.lots(1));
    }

    private static void theOtherStockHasAMillionUnitsAtMost(int kind) {
        at = NAMES[kind] + ": the other STOCK would have more than 1000000 units";
        Lotfolio all = holding(100000);
        is(3, () -> tell(all, kind, 0, 0, 1, 10, 1, 0));
        is(1000000, () -> all.unitsAt(1, 0));
        refused(STATE, () -> holding(100001), x -> tell(x, kind, 0, 0, 1, 10, 1, 0));
        refused(STATE, () -> holding(428572), x -> tell(x, kind, 0, 0, 1, 7, 3, 0));
        Lotfolio both = lotted(holding(111111), 1, 0, 1);
        is(5, () -> tell(both, kind, 0, 0, 1, 9, 1, 0));
        is(1000000, () -> both.unitsAt(1, 0));
        refused(STATE, () -> lotted(holding(111111), 1, 0, 2), x -> tell(x, kind, 0, 0, 1, 9, 1, 0));
        at = NAMES[kind] + ": the STOCK itself may have more";
        Lotfolio more = million(9999);
        is(6, () -> tell(more, kind, 0, 0, 1, 1, 2, 0));
        is(504999, () -> more.unitsAt(1, 0));
    }

    // ---- 14 to 16: putting right

    private static void thereIsNoSuchOrder() {
        at = "14 correct: there is no such ORDER";
        refused(PLACE, () -> lots(3), x -> x.correct(-1, 0, 1), x -> x.correct(3, 0, 1), x -> x.correct(MIN, 0, 1),
            x -> x.correct(MAX, 0, 1));
        refused(PLACE, Lotfolio::new, x -> x.correct(0, 0, 1));
        Lotfolio full = full(60);
        is(1, () -> full.correct(59, 0, 2));
        is(1, () -> full.correct(0, 0, 2));
        refused(PLACE, () -> full(60), x -> x.correct(60, 0, 1));
        at = "14 correct: IndexOutOfBoundsException ahead of IllegalStateException";
        refused(PLACE, () -> lots(3), x -> x.correct(3, 0, 0), x -> x.correct(-1, 3, 0), x -> x.correct(0, 3, MIN),
            x -> x.correct(0, -1, MAX));
        at = "15 strike: there is no such ORDER";
        refused(PLACE, () -> lots(3), x -> x.strike(-1), x -> x.strike(3), x -> x.strike(MIN), x -> x.strike(MAX));
        refused(PLACE, Lotfolio::new, x -> x.strike(0));
        refused(PLACE, () -> full(60), x -> x.strike(60));
    }

    private static void theFirstAndTheLastAreStruck() {
        at = "15 strike: the first ORDER, and the last one";
        Lotfolio x = full(60);
        is(59, () -> x.strike(59));
        is(58, () -> x.strike(0));
        is(58, x::orders);
        is(58, () -> x.pay(0, 100, 1));
        is(59, () -> x.pay(0, 100, 1));
        state(() -> x.pay(0, 100, 1));
        at = "15 strike: the only ORDER";
        Lotfolio one = lots(1);
        is(0, () -> one.strike(0));
        Check.alike(at, Snapshot.of(one), Snapshot.of(new Lotfolio()));
        at = "15 strike: those behind get other numbers, those ahead do not";
        Lotfolio y = lots(3);
        is(2, () -> y.strike(1));
        is(100, () -> y.order(0, 1));
        is(102, () -> y.order(1, 1));
        index(() -> y.order(2, 1));
        at = "15 strike: those behind keep their KINDS, DAYS, STOCKS and NUMBERS";
        for (int struck = 0; struck < 4; struck++) {
            Lotfolio mixed = new Lotfolio();
            int[][] due = new int[4][];
            for (int i = 0; i < 4; i++) {
                int[] numbers = {7 + i, 20 + i, i};
                mixed.buy(5 - i, 30 * i, numbers[0], numbers[1], numbers[2]);
                due[i] = new int[] {BUY, 30 * i, 5 - i, numbers[0], numbers[1], numbers[2], 0, 0};
            }
            int gone = struck;
            is(3, () -> mixed.strike(gone));
            for (int i = 0; i < 24; i++) {
                int value = i;
                int was = i / 8 < gone ? i / 8 : i / 8 + 1;
                is(due[was][value % 8], () -> mixed.order(value / 8, value % 8));
            }
            for (int stock = 2; stock < 6; stock++) {
                int s = stock;
                is(5 - s == gone ? 0 : 12 - s, () -> mixed.unitsAt(s, 9999));
            }
        }
        at = "15 strike: an ORDER may have a lesser DAY behind the last one is struck";
        Lotfolio z = lots(2);
        state(() -> z.buy(0, 100, 1, 1, 0));
        is(1, () -> z.strike(1));
        is(1, () -> z.buy(0, 100, 1, 1, 0));
    }

    private static void lotsArePickedAnew() {
        at = "1 The log: LOTS being picked anew";
        Lotfolio x = lots(3);
        x.sell(0, 200, 15, 20, 4, 1);
        is(3, () -> x.strike(0));
        piece(x, 2, 0, 1, 10, 100, 100, 0, 0, 0);
        piece(x, 2, 1, 0, 5, 50, 50, 0, 0, 0);
        at = "15 strike: an ORDER behind could not be done, as its LOT has another number then";
        Supplier<Lotfolio> two = () -> {
            Lotfolio y = lots(2);
            y.sell(0, 200, 5, 20, 4, 1);
            return y;
        };
        refused(STATE, two, y -> y.strike(0), y -> y.strike(1));
        at = "14 correct: no LOT comes then, and those behind have other numbers";
        Supplier<Lotfolio> again = () -> {
            Lotfolio y = lots(1);
            y.again(0, 200, 1, 10);
            y.buy(0, 201, 5, 1, 0);
            y.sell(0, 202, 1, 1, 4, 2);
            return y;
        };
        refused(STATE, again, y -> y.correct(1, 0, 0), y -> y.correct(1, 1, 11));
        Lotfolio dear = again.get();
        is(2, () -> dear.correct(3, 3, 1));
        is(10, () -> dear.correct(1, 1, 11));
        piece(dear, 3, 0, 1, 1, 1, 0, 0, 0, 0);
    }

    private static void anOrderBehindCouldNotBeDone() {
        at = "14 correct: an ORDER could not be done: too few units";
        Supplier<Lotfolio> sold = () -> sold(lots(2), 15, 0);
        Lotfolio x = sold.get();
        is(10, () -> x.correct(0, 0, 5));
        is(0, () -> x.lots(0));
        refused(STATE, sold, y -> y.correct(0, 0, 4), y -> y.correct(2, 0, 21));
        refused(STATE, sold, y -> y.strike(0), y -> y.strike(1));
        at = "14 correct: an ORDER could not be done: too many LOTS";
        Supplier<Lotfolio> ten = () -> {
            Lotfolio y = lots(1);
            y.again(0, 200, 1, 11);
            return lotted(y, 0, 201, 9);
        };
        Lotfolio same = ten.get();
        is(11, () -> same.correct(1, 1, 99999));
        refused(STATE, ten, y -> y.correct(1, 1, 10), y -> y.correct(1, 0, 2));
        at = "14 correct: an ORDER could not be done: too many units";
        Supplier<Lotfolio> split = () -> {
            Lotfolio y = holding(100000);
            y.split(0, 0, 10, 1, 0);
            return y;
        };
        Lotfolio less = split.get();
        is(10, () -> less.correct(3, 0, 9));
        refused(STATE, split, y -> y.correct(0, 0, 1001));
        at = "15 strike: an ORDER could not be done: too many units, too many LOTS";
        Supplier<Lotfolio> half = () -> {
            Lotfolio y = holding(200000);
            y.split(0, 0, 1, 2, 0);
            y.split(0, 0, 10, 1, 0);
            return y;
        };
        refused(STATE, half, y -> y.strike(3));
        refused(STATE, () -> lotted(sold(lots(10), 10, 0), 0, 201, 1), y -> y.strike(10));
    }

    private static void aNumberMayBePutRightToWhatItIs() {
        at = "14 correct: to what the NUMBER is";
        Lotfolio x = sold(lots(2), 15, 0);
        x.correct(0, 1, 30);
        is(-200, () -> x.changed(2000, false));
        is(30, () -> x.correct(0, 1, 30));
        is(0, () -> x.changed(2000, false));
        at = "(6) put right, and put back, changes nothing but changed()";
        Lotfolio y = sold(lots(2), 15, 0);
        int digest = y.digest();
        y.correct(2, 1, 7);
        y.correct(2, 1, 100);
        is(digest, y::digest);
        is(15 * 93, () -> y.changed(2000, false));
    }

    private static void changedIsNoneAheadOfTheFirst() {
        at = "16 changed: 0 ahead of the first one";
        Lotfolio x = sold(lots(2), 15, 0);
        for (int i = 2000; i < 2028; i++) {
            int year = i;
            is(0, () -> x.changed(year, false));
            is(0, () -> x.changed(year, true));
        }
        at = "16 changed: by the latest correct() or strike() that was done";
        x.correct(2, 1, 99);
        is(-15, () -> x.changed(2000, false));
        state(() -> x.correct(2, 0, 100), () -> x.strike(0));
        index(() -> x.correct(3, 0, 1), () -> x.strike(3));
        x.buy(0, 200, 1, 1, 0);
        x.sell(0, 700, 1, 11, 1, 0);
        is(-15, () -> x.changed(2000, false));
        is(0, () -> x.changed(2001, true));
        x.strike(4);
        is(0, () -> x.changed(2000, false));
        is(-10, () -> x.changed(2001, true));
        is(0, () -> x.changed(2001, false));
    }

    private static void changedOfTheYears() {
        at = "16 changed: year is not 2000 to 2027";
        ends(ARGUMENT, () -> lots(1), 2000, 2027, (x, year) -> x.changed(year, true));
        ends(ARGUMENT, () -> lots(1), 2000, 2027, (x, year) -> x.changed(year, false));
        at = "16 changed: in the first YEAR and in the last one";
        Lotfolio x = new Lotfolio();
        x.buy(0, 0, 9, 10, 0);
        x.sell(0, 0, 1, 10, 0, 0);
        x.sell(0, 9999, 1, 10, 0, 0);
        x.correct(1, 1, 12);
        is(2, () -> x.changed(2000, false));
        is(0, () -> x.changed(2000, true));
        x.correct(2, 1, 8);
        is(0, () -> x.changed(2000, false));
        is(-2, () -> x.changed(2027, true));
        is(0, () -> x.changed(2027, false));
    }

    // ---- 17, 18: asking

    private static void howManyOrders() {
        at = "17 orders: none, and 60";
        is(0, () -> new Lotfolio().orders());
        is(60, () -> full(60).orders());
        at = "17 orders: one that could not be done is not told";
        Lotfolio x = lots(10);
        state(() -> x.buy(0, 200, 1, 1, 0), () -> x.sell(0, 200, 101, 1, 0, 0));
        is(10, x::orders);
        at = "17 orders: asking changes nothing";
        asked(() -> lots(3), Lotfolio::orders, y -> y.order(2, 7));
    }

    private static void whatAnOrderTells() {
        at = "18 order: what is out of range";
        ends(ARGUMENT, () -> lots(1), 0, 7, (x, what) -> x.order(0, what));
        at = "18 order: there is no such ORDER";
        ends(PLACE, () -> lots(3), 0, 2, (x, order) -> x.order(order, 0));
        ends(PLACE, () -> full(60), 0, 59, (x, order) -> x.order(order, 7));
        refused(PLACE, Lotfolio::new, x -> x.order(0, 0));
        at = "18 order: IndexOutOfBoundsException ahead of IllegalArgumentException";
        refused(PLACE, () -> lots(3), x -> x.order(3, 8), x -> x.order(-1, -1), x -> x.order(MAX, MIN));
    }

    public static void main(String[] args) {
        for (int kind = 0; kind < KINDS; kind++) {
            eachNumberFromItsLeastToItsGreatest(kind);
            theStockIs0To5(kind);
            theDayIs0To9999(kind);
            noDayBelowThatOfTheLast(kind);
            sixtyOrdersAtMost(kind);
            aNumberOutOfRangeIsThrownFirst(kind);
            isPutRight(kind);
        }
        aBuyMakesNoEleventhLot();
        aBuyMayExceedAMillionUnits();
        aSellNeedsTheUnits();
        toldNeedsThatLotOfIt();
        aSplitMakesAMillionUnitsAtMost();
        aPayCanAlwaysBeDone();
        anAgainMakesNoEleventhLot();
        anAgainMakesAMillionUnitsAtMost();
        for (int kind = SPIN; kind <= MERGER; kind++) {
            theOtherStockIsAnother(kind);
            theOtherStockHasTenLotsAtMost(kind);
            theOtherStockHasAMillionUnitsAtMost(kind);
        }
        thereIsNoSuchOrder();
        theFirstAndTheLastAreStruck();
        lotsArePickedAnew();
        anOrderBehindCouldNotBeDone();
        aNumberMayBePutRightToWhatItIs();
        changedIsNoneAheadOfTheFirst();
        changedOfTheYears();
        howManyOrders();
        whatAnOrderTells();
        Check.end();
    }
}
