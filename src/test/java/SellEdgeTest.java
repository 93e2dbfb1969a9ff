import java.util.function.Supplier;

/** Boundary cases of "3 Selling", and what tells of PIECES: promises 7, 22 and 23, a test a sentence. */
final class SellEdgeTest extends Edges {
    private static final int FIRST = 0;
    private static final int LAST = 1;
    private static final int DEAREST = 2;
    private static final int CHEAPEST = 3;
    private static final int TOLD = 4;
    private static final int MEAN = 5;
    private static final int LEAST = 6;

    /** LOTS of STOCK 0, by pairs of units and COST, of DAYS 0, 1 and so on. */
    private static Lotfolio of(int... unitsAndCosts) {
        Lotfolio x = new Lotfolio();
        for (int i = 0; i < unitsAndCosts.length; i += 2) {
            int units = unitsAndCosts[i];
            int cost = unitsAndCosts[i + 1];
            int price = Math.min(99999, cost / units);
            x.buy(0, i / 2, units, price, cost - price * units);
        }
        return x;
    }

    /** The PIECES of a sale in a YEAR behind, by LOT, units and COST; given() has to tell the same COST ahead. */
    private static Lotfolio sells(Lotfolio x, int units, int custom, int told, long... want) {
        int order = x.orders();
        long all = 0;
        for (int i = 2; i < want.length; i += 3) {
            all += want[i];
        }
        is(all, () -> x.given(0, units, custom, told));
        is(order, () -> x.sell(0, 4000, units, 99999, custom, told));
        is(want.length / 3, () -> x.pieces(order));
        for (int i = 0; i < want.length; i++) {
            int value = i;
            is(want[value], () -> x.piece(order, value / 3, value % 3));
        }
        return x;
    }

    private static Supplier<Lotfolio> tenLots() {
        return () -> of(1, 10, 2, 30, 3, 30, 4, 80, 5, 50, 6, 180, 7, 70, 8, 320, 9, 90, 10, 500);
    }

    // ---- the customs

    private static void ofOneLot() {
        for (int custom = 0; custom < 7; custom++) {
            at = "3 Selling: one unit of one LOT, by " + custom;
            left(sells(of(3, 100), 1, custom, 0, 0, 1, 33), 0, 2, 67, 2);
            at = "3 Selling: all units of one LOT, by " + custom;
            left(sells(of(3, 100), 3, custom, 0, 0, 3, 100));
            at = "3 Selling: a LOT of one unit, by " + custom;
            left(sells(of(1, 100), 1, custom, 0, 0, 1, 100));
        }
    }

    /** Number, units, COST and FREE units of the LOTS that are left. */
    private static void left(Lotfolio x, long... want) {
        is(want.length / 4, () -> x.lots(0));
        for (int i = 0; i < want.length; i++) {
            int value = i;
            is(want[value], () -> x.lot(0, value / 4, value % 4 == 0 ? 0 : 1 + value % 4));
        }
    }

    private static void allOfTenLots() {
        long[] unit = {10, 15, 10, 20, 10, 30, 10, 40, 10, 50};
        int[][] orders = {{0, 1, 2, 3, 4, 5, 6, 7, 8, 9}, {9, 8, 7, 6, 5, 4, 3, 2, 1, 0},
            {9, 7, 5, 3, 1, 0, 2, 4, 6, 8}, {0, 2, 4, 6, 8, 1, 3, 5, 7, 9}, {7, 0, 1, 2, 3, 4, 5, 6, 8, 9},
            null, {1, 2, 3, 4, 5, 6, 7, 8, 9, 0}};
        for (int custom = 0; custom < 7; custom++) {
            if (custom != MEAN) {
                at = "3 Selling: all units of ten LOTS, by " + custom;
                long[] want = new long[30];
                for (int i = 0; i < 10; i++) {
                    int lot = orders[custom][i];
                    want[3 * i] = lot;
                    want[3 * i + 1] = lot + 1;
                    want[3 * i + 2] = unit[lot] * (lot + 1);
                }
                left(sells(tenLots().get(), 55, custom, 7, want));
            }
        }
    }

    private static void first() {
        at = "3 Selling: FIRST, in order of days";
        left(sells(of(2, 20, 2, 60), 2, FIRST, 0, 0, 2, 20), 1, 2, 60, 2);
        sells(of(2, 20, 2, 60), 3, FIRST, 0, 0, 2, 20, 1, 1, 30);
        at = "3 Selling: LAST, the other way round";
        left(sells(of(2, 20, 2, 60), 2, LAST, 0, 1, 2, 60), 0, 2, 20, 2);
        sells(of(2, 20, 2, 60), 3, LAST, 0, 1, 2, 60, 0, 1, 10);
        at = "3 Selling: FIRST and LAST of one DAY by their numbers";
        Lotfolio x = lotted(new Lotfolio(), 0, 0, 3);
        sells(x, 1, LAST, 0, 2, 1, 1);
        sells(x, 1, FIRST, 0, 0, 1, 1);
    }

    private static void dearestAndCheapest() {
        at = "3 Selling: DEAREST, the greatest COST for a unit first";
        sells(of(2, 20, 1, 11, 3, 30), 2, DEAREST, 0, 1, 1, 11, 0, 1, 10);
        at = "3 Selling: DEAREST, of several in order of days";
        sells(of(2, 20, 1, 10, 3, 30), 6, DEAREST, 0, 0, 2, 20, 1, 1, 10, 2, 3, 30);
        sells(of(1, 9, 2, 20, 1, 10, 3, 30), 7, DEAREST, 0, 1, 2, 20, 2, 1, 10, 3, 3, 30, 0, 1, 9);
        at = "3 Selling: CHEAPEST, the least first";
        sells(of(2, 20, 1, 9, 3, 30), 2, CHEAPEST, 0, 1, 1, 9, 0, 1, 10);
        at = "3 Selling: CHEAPEST, of several in order of days";
        sells(of(2, 20, 1, 10, 3, 30), 6, CHEAPEST, 0, 0, 2, 20, 1, 1, 10, 2, 3, 30);
        sells(of(1, 11, 2, 20, 1, 10, 3, 30), 7, CHEAPEST, 0, 1, 2, 20, 2, 1, 10, 3, 3, 30, 0, 1, 11);
        at = "3 Selling: exactly, not by whole cents";
        sells(of(3, 10, 2, 7), 1, DEAREST, 0, 1, 1, 3);
        sells(of(2, 7, 3, 10), 1, CHEAPEST, 0, 1, 1, 3);
        sells(of(9999, 99990001, 9998, 99980001), 1, DEAREST, 0, 1, 1, 10000);
        sells(of(9998, 99980001, 9999, 99990001), 1, CHEAPEST, 0, 1, 1, 10000);
        at = "3 Selling: of LOTS without a COST";
        sells(of(1, 0, 1, 0, 1, 1), 3, DEAREST, 0, 2, 1, 1, 0, 1, 0, 1, 1, 0);
        sells(of(1, 1, 1, 0, 1, 0), 3, CHEAPEST, 0, 1, 1, 0, 2, 1, 0, 0, 1, 1);
    }

    private static void told() {
        at = "3 Selling: TOLD, the LOT of that number first, then in order of days";
        for (int lot = 0; lot < 3; lot++) {
            long other = lot == 0 ? 1 : 0;
            long cost = lot == 0 ? 30 : 20;
            sells(of(2, 20, 2, 30, 2, 40), 2, TOLD, lot, lot, 2, 20 + 10 * lot);
            sells(of(2, 20, 2, 30, 2, 40), 3, TOLD, lot, lot, 2, 20 + 10 * lot, other, 1, cost / 2);
            sells(of(2, 20, 2, 30, 2, 40), 1, TOLD, lot, lot, 1, 10 + 5 * lot);
        }
        at = "3 Selling: TOLD, by the number of a LOT, not by its place";
        Lotfolio x = of(2, 20, 2, 30, 2, 40);
        sells(x, 2, FIRST, 0, 0, 2, 20);
        sells(x, 1, TOLD, 1, 1, 1, 15);
        sells(x, 1, TOLD, 2, 2, 1, 20);
    }

    private static void mean() {
        at = "3 Selling: MEAN, the COST of all LOTS is spread anew first, then as FIRST";
        left(sells(of(1, 10, 1, 20), 1, MEAN, 0, 0, 1, 15), 1, 1, 15, 1);
        left(sells(of(1, 0, 1, 0, 1, 100), 2, MEAN, 0, 0, 1, 33, 1, 1, 33), 2, 1, 34, 1);
        left(sells(of(2, 1, 3, 1, 5, 1), 3, MEAN, 0, 0, 2, 0, 1, 1, 0), 1, 2, 1, 2, 2, 5, 2, 5);
        at = "3 Selling: MEAN of LOTS without a COST";
        left(sells(of(1, 0, 2, 0), 2, MEAN, 0, 0, 1, 0, 1, 1, 0), 1, 1, 0, 1);
        at = "3 Selling: MEAN of ten LOTS";
        Lotfolio x = tenLots().get();
        sells(x, 1, MEAN, 0, 0, 1, 1360 / 55);
        is(1360 * 3 / 55 - 1360 / 55, () -> x.lot(0, 0, 3));
        is(1360 - 1360 * 45 / 55, () -> x.lot(0, 8, 3));
        is(1360 - 1360 / 55, () -> x.sum(1));
        at = "3 Selling: given() by MEAN spreads nothing";
        asked(tenLots(), y -> y.given(0, 55, MEAN, 0));
        at = "3 Selling: MEAN that is refused spreads nothing";
        refused(STATE, tenLots(), y -> y.sell(0, 4000, 56, 1, MEAN, 0), y -> y.given(0, 56, MEAN, 0));
    }

    private static void leastTakesTheMostCost() {
        at = "3 Selling: LEAST, all but one of the set whole, and of that one some units";
        sells(of(10, 100, 10, 300), 5, LEAST, 0, 1, 5, 150);
        sells(of(10, 100, 10, 300), 11, LEAST, 0, 1, 10, 300, 0, 1, 10);
        sells(of(10, 100, 10, 300, 3, 60), 12, LEAST, 0, 1, 10, 300, 2, 2, 40);
        sells(of(10, 100, 10, 300, 3, 60), 13, LEAST, 0, 2, 3, 60, 1, 10, 300);
        at = "3 Selling: LEAST, a dear LOT that is not taken, as its part is less than others whole";
        sells(of(3, 90, 2, 62, 2, 62), 4, LEAST, 0, 2, 2, 62, 1, 2, 62);
        sells(of(3, 96, 2, 62, 2, 62), 4, LEAST, 0, 0, 3, 96, 1, 1, 31);
        at = "3 Selling: LEAST, by rounding down a set gives up less";
        sells(of(3, 10, 3, 11), 1, LEAST, 0, 0, 1, 3);
        sells(of(3, 11, 3, 12), 1, LEAST, 0, 1, 1, 4);
        sells(of(3, 10, 3, 11), 2, LEAST, 0, 1, 2, 7);
        sells(of(2, 5, 2, 5), 3, LEAST, 0, 1, 2, 5, 0, 1, 2);
    }

    private static void leastOfSeveral() {
        at = "3 Selling: LEAST, of several the set with the least number";
        sells(of(2, 10, 2, 10), 2, LEAST, 0, 0, 2, 10);
        sells(of(2, 10, 2, 10), 1, LEAST, 0, 0, 1, 5);
        sells(of(1, 5, 1, 5, 2, 10), 2, LEAST, 0, 1, 1, 5, 0, 1, 5);
        sells(of(2, 10, 1, 5, 1, 5), 2, LEAST, 0, 0, 2, 10);
        sells(of(9, 0, 1, 5, 1, 5, 1, 5, 1, 5), 2, LEAST, 0, 2, 1, 5, 1, 1, 5);
        at = "3 Selling: LEAST, of these the one whose LOT not taken whole is first in order of days";
        sells(of(2, 10, 2, 10), 3, LEAST, 0, 1, 2, 10, 0, 1, 5);
        sells(of(2, 0, 2, 0, 2, 0), 5, LEAST, 0, 1, 2, 0, 2, 2, 0, 0, 1, 0);
        sells(of(2, 10, 3, 15, 4, 20), 8, LEAST, 0, 1, 3, 15, 2, 4, 20, 0, 1, 5);
        sells(of(1, 5, 3, 15, 4, 20), 6, LEAST, 0, 2, 4, 20, 1, 2, 10);
        at = "3 Selling: LEAST, where all are taken whole, the first one is taken last";
        sells(of(2, 10, 2, 11), 4, LEAST, 0, 1, 2, 11, 0, 2, 10);
        sells(of(1, 0, 2, 10, 3, 12), 5, LEAST, 0, 2, 3, 12, 1, 2, 10);
        sells(of(1, 7, 1, 6, 1, 5, 1, 4), 4, LEAST, 0, 1, 1, 6, 2, 1, 5, 3, 1, 4, 0, 1, 7);
        at = "3 Selling: LEAST of LOTS without a COST";
        sells(of(1, 0, 1, 0, 1, 0), 2, LEAST, 0, 1, 1, 0, 0, 1, 0);
        at = "3 Selling: LEAST of ten LOTS, but one unit";
        sells(tenLots().get(), 1, LEAST, 0, 9, 1, 50);
        sells(tenLots().get(), 10, LEAST, 0, 9, 10, 500);
        sells(tenLots().get(), 11, LEAST, 0, 9, 10, 500, 7, 1, 40);
        sells(tenLots().get(), 54, LEAST, 0, 2, 3, 30, 3, 4, 80, 4, 5, 50, 5, 6, 180, 6, 7, 70,
            7, 8, 320, 8, 9, 90, 9, 10, 500, 1, 2, 30);
    }

    // ---- PIECES

    private static void aPartOfTheCost() {
        at = "3 Selling: COST times n, divided by u, rounded down, all of it with the last unit";
        Lotfolio x = of(7, 20);
        sells(x, 1, FIRST, 0, 0, 1, 2);
        sells(x, 4, FIRST, 0, 0, 4, 12);
        sells(x, 1, FIRST, 0, 0, 1, 3);
        sells(x, 1, FIRST, 0, 0, 1, 3);
        is(0, () -> x.lots(0));
        is(20, () -> x.sum(7));
        at = "3 Selling: of a great COST";
        sells(of(9999, 999900000), 9998, FIRST, 0, 0, 9998, 999800000);
    }

    private static void freeUnits() {
        at = "3 Selling: FREE units become as many as are left, if they were more";
        left(sells(of(5, 50), 1, FIRST, 0, 0, 1, 10), 0, 4, 40, 4);
        Supplier<Lotfolio> two = () -> {
            Lotfolio x = new Lotfolio();
            x.buy(0, 0, 3, 10, 0);
            x.buy(0, 0, 5, 10, 0);
            x.sell(0, 0, 3, 9, 0, 0);
            return x;
        };
        left(two.get(), 1, 5, 53, 2);
        left(sells(two.get(), 2, FIRST, 0, 1, 2, 21), 1, 3, 32, 2);
        left(sells(two.get(), 3, FIRST, 0, 1, 3, 31), 1, 2, 22, 2);
        left(sells(two.get(), 4, FIRST, 0, 1, 4, 42), 1, 1, 11, 1);
        at = "3 Selling: a LOT of the DAY of the SELL, and one 30 days ahead, but not one 31 days ahead, has FREE units"
            + " for a loss";
        for (int ahead : new int[] {0, 1, 29, 30, 31, 400}) {
            Lotfolio x = new Lotfolio();
            x.buy(1, 0, 1, 1, 0);
            x.buy(0, 500 - ahead, 2, 10, 0);
            x.spin(1, 500, 2, 1, 1, 0);
            x.buy(0, 500, 2, 10, 0);
            x.sell(0, 500, 2, 5, LAST, 0);
            boolean isNear = ahead <= 30;
            piece(x, 4, 0, 3, 2, 20, isNear ? 0 : -10, 0, isNear ? 10 : 0, isNear ? 0 : 2);
            lot(x, 0, 0, 1, 500 - ahead, 2, isNear ? 30 : 20, isNear ? 0 : 2);
        }
    }

    private static void thirtyDaysPass() {
        for (int behind : new int[] {0, 1, 29, 30, 31, 400}) {
            for (boolean again : new boolean[] {false, true}) {
                at = "3 Selling: " + behind + " days have passed as units come by " + (again ? "AGAIN" : "BUY");
                Lotfolio x = new Lotfolio();
                x.buy(0, 0, 3, 10, 0);
                x.sell(0, 500, 2, 5, FIRST, 0);
                is(2, () -> x.piece(1, 0, 6));
                if (again) {
                    x.again(0, 500 + behind, 2, 1);
                } else {
                    x.buy(0, 500 + behind, 2, 1, 0);
                }
                boolean isNear = behind <= 30;
                piece(x, 1, 0, 0, 2, 20, isNear ? 0 : -10, 1, isNear ? 10 : 0, 0);
                lot(x, 0, 1, 1, 500 + behind, 2, isNear ? 12 : 2, isNear ? 0 : 2);
            }
        }
        at = "22 piece: units that can be matched no more, by the DAY of the last ORDER";
        for (int behind : new int[] {0, 30, 31, 400}) {
            Lotfolio x = of(3, 30);
            x.sell(0, 500, 2, 5, FIRST, 0);
            x.pay(5, 500 + behind, 0);
            is(behind <= 30 ? 2 : 0, () -> x.piece(1, 0, 6));
            x.strike(2);
            is(2, () -> x.piece(1, 0, 6));
        }
    }

    private static void onlyALossIsMatched() {
        at = "3 Selling: a PIECE with a GAIN of 0, or above, has no LOSS";
        for (int price : new int[] {9, 10, 11}) {
            Lotfolio x = new Lotfolio();
            x.buy(0, 0, 1, 10, 0);
            x.buy(0, 1, 1, 1, 0);
            x.sell(0, 1, 1, price, FIRST, 0);
            boolean isLoss = price < 10;
            piece(x, 2, 0, 0, 1, 10, isLoss ? 0 : price - 10, 0, isLoss ? 1 : 0, 0);
            lot(x, 0, 0, 1, 1, 1, isLoss ? 2 : 1, isLoss ? 0 : 1);
        }
        at = "3 Selling: of several PIECES only those with a LOSS";
        Lotfolio x = of(1, 9, 1, 11, 1, 10);
        x.sell(0, 500, 3, 10, FIRST, 0);
        is(0, () -> x.piece(3, 0, 6));
        is(1, () -> x.piece(3, 1, 6));
        is(0, () -> x.piece(3, 2, 6));
        x.buy(0, 500, 3, 1, 0);
        is(1, () -> x.piece(3, 0, 3));
        is(0, () -> x.piece(3, 1, 3));
        is(0, () -> x.piece(3, 2, 3));
        left(x, 3, 3, 4, 2);
    }

    private static void whichLotsMatch() {
        at = "3 Selling: LOTS of which the SELL took a PIECE do not match, though units are left";
        Lotfolio x = new Lotfolio();
        x.buy(0, 0, 2, 10, 0);
        x.buy(0, 0, 4, 10, 0);
        x.sell(0, 0, 3, 9, FIRST, 0);
        is(-2, () -> x.piece(2, 0, 3));
        is(-1, () -> x.piece(2, 1, 3));
        left(x, 1, 3, 30, 3);
        at = "3 Selling: a SELL behind it matches with that LOT, if it takes no PIECE of it";
        Lotfolio y = new Lotfolio();
        y.buy(0, 0, 2, 10, 0);
        y.buy(0, 0, 4, 10, 0);
        y.sell(0, 0, 1, 99, LAST, 0);
        y.sell(0, 0, 2, 9, FIRST, 0);
        is(0, () -> y.piece(3, 0, 3));
        left(y, 1, 3, 32, 1);
        at = "3 Selling: in order of days, PIECE by PIECE";
        Lotfolio z = new Lotfolio();
        z.buy(0, 0, 3, 10, 0);
        z.buy(0, 0, 3, 20, 0);
        z.buy(0, 1, 2, 1, 0);
        z.buy(0, 2, 9, 1, 0);
        z.sell(0, 2, 5, 5, TOLD, 1);
        piece(z, 4, 0, 1, 3, 60, 0, 0, 45, 0);
        piece(z, 4, 1, 0, 2, 20, 0, 0, 10, 0);
        left(z, 0, 1, 10, 1, 2, 2, 2 + 30, 0, 3, 9, 9 + 15 + 10, 6);
        at = "3 Selling: units that came by SPIN do not match";
        Lotfolio spun = new Lotfolio();
        spun.buy(1, 0, 5, 1, 0);
        spun.buy(0, 0, 2, 10, 0);
        spun.spin(1, 0, 0, 1, 1, 0);
        spun.sell(0, 0, 2, 5, FIRST, 0);
        piece(spun, 3, 0, 1, 2, 20, -10, 0, 0, 2);
        spun.spin(1, 0, 2, 1, 1, 0);
        is(2, () -> spun.piece(3, 0, 6));
        at = "3 Selling: units of another STOCK do not match";
        spun.buy(1, 0, 5, 1, 0);
        is(2, () -> spun.piece(3, 0, 6));
        is(5, () -> spun.lot(1, spun.lots(1) - 1, 4));
    }

    private static void whatIsBarred() {
        at = "3 Selling: of the LOSS that is left its part, times m, divided by w, is BARRED, rounded down";
        Lotfolio x = of(3, 20);
        x.sell(0, 500, 3, 0, FIRST, 0);
        x.buy(0, 500, 1, 1, 0);
        piece(x, 1, 0, 0, 3, 20, -14, 1, 6, 2);
        left(x, 1, 1, 7, 0);
        x.buy(0, 501, 1, 1, 0);
        piece(x, 1, 0, 0, 3, 20, -7, 1, 13, 1);
        x.buy(0, 502, 2, 1, 0);
        piece(x, 1, 0, 0, 3, 20, 0, 1, 20, 0);
        left(x, 1, 1, 7, 0, 2, 1, 8, 0, 3, 2, 9, 1);
        sums(x, -24, 24, 0, 0, 0, 20, 24, 20);
        is(0, () -> x.gains(2001, true));
        is(-20, () -> {
            x.strike(4);
            x.strike(3);
            x.strike(2);
            return x.gains(2001, true);
        });
        at = "3 Selling: PIECES in the order in which they were sold, of several SELLS";
        Lotfolio y = of(1, 10, 2, 20, 3, 30);
        y.sell(0, 500, 1, 9, TOLD, 2);
        y.sell(0, 501, 1, 8, TOLD, 1);
        y.sell(0, 502, 2, 7, TOLD, 0);
        y.buy(0, 503, 1, 1, 0);
        y.buy(0, 503, 2, 1, 0);
        is(1, () -> y.piece(3, 0, 5));
        is(2, () -> y.piece(4, 0, 5));
        is(3, () -> y.piece(5, 0, 5));
        is(0, () -> y.piece(5, 1, 5));
        is(1, () -> y.piece(5, 1, 6));
        y.buy(0, 532, 3, 1, 0);
        is(3, () -> y.piece(5, 1, 5));
        is(2, () -> y.lot(0, y.lots(0) - 1, 4));
        at = "3 Selling: what is BARRED is more GAIN of the YEAR of the SELL";
        Lotfolio z = new Lotfolio();
        z.buy(0, 350, 1, 10, 0);
        z.sell(0, 365, 1, 1, FIRST, 0);
        z.buy(0, 366, 1, 1, 0);
        is(0, () -> z.gains(2000, false));
        is(0, () -> z.gains(2001, false));
        is(10, () -> z.lot(0, 0, 3));
    }

    private static void whenAPieceIsLong() {
        int[][] dates = {{2000, 1, 1, 2001, 1, 1}, {2000, 2, 28, 2001, 2, 28}, {2000, 2, 29, 2001, 2, 28},
            {2000, 3, 1, 2001, 3, 1}, {2003, 2, 28, 2004, 2, 28}, {2003, 3, 1, 2004, 3, 1},
            {2003, 12, 31, 2004, 12, 31}, {2004, 2, 29, 2005, 2, 28}, {2024, 2, 29, 2025, 2, 28},
            {2026, 5, 17, 2027, 5, 17}};
        for (int[] d : dates) {
            at = "3 Selling: LONG, behind the same day a year behind " + d[0] + " " + d[1] + " " + d[2];
            Lotfolio x = new Lotfolio();
            int year = x.day(d[3], d[4], d[5]);
            x.buy(0, x.day(d[0], d[1], d[2]), 2, 1, 0);
            x.sell(0, year, 1, 2, FIRST, 0);
            x.sell(0, year + 1, 1, 2, FIRST, 0);
            is(0, () -> x.piece(1, 0, 4));
            is(1, () -> x.piece(2, 0, 4));
            is(1, () -> x.gains(d[3], false));
            is(1, () -> x.gains(x.date(year + 1) / 10000, true));
        }
        at = "3 Selling: one PIECE is LONG and another one is not";
        Lotfolio x = new Lotfolio();
        x.buy(0, 0, 1, 1, 0);
        x.buy(0, 1, 1, 1, 0);
        x.sell(0, 367, 2, 3, FIRST, 0);
        is(1, () -> x.piece(2, 0, 4));
        is(0, () -> x.piece(2, 1, 4));
        is(2, () -> x.gains(2001, true));
        is(2, () -> x.gains(2001, false));
    }

    // ---- 22, 23

    private static Lotfolio sold() {
        Lotfolio x = tenLots().get();
        x.sell(0, 20, 1, 1, FIRST, 0);
        x.sell(0, 20, 54, 10, FIRST, 0);
        return x;
    }

    private static void whatAPieceTells() {
        at = "22 piece: there is no such ORDER";
        ends(PLACE, SellEdgeTest::sold, 10, 11, (x, order) -> x.piece(order, 0, 0));
        refused(PLACE, SellEdgeTest::sold, x -> x.piece(-1, 0, 0), x -> x.piece(12, 0, 0));
        refused(PLACE, Lotfolio::new, x -> x.piece(0, 0, 0));
        at = "22 piece: there is no such PIECE";
        ends(PLACE, SellEdgeTest::sold, 0, 0, (x, place) -> x.piece(10, place, 0));
        ends(PLACE, SellEdgeTest::sold, 0, 8, (x, place) -> x.piece(11, place, 0));
        refused(PLACE, SellEdgeTest::sold, x -> x.piece(0, 0, 0), x -> x.piece(9, 0, 6));
        at = "22 piece: what is out of range";
        ends(ARGUMENT, SellEdgeTest::sold, 0, 6, (x, what) -> x.piece(11, 8, what));
        at = "22 piece: IndexOutOfBoundsException ahead of IllegalArgumentException";
        refused(PLACE, SellEdgeTest::sold, x -> x.piece(12, 0, 7), x -> x.piece(11, 9, 7), x -> x.piece(10, -1, -1),
            x -> x.piece(0, 0, MAX));
        at = "22 piece: asking changes nothing";
        asked(SellEdgeTest::sold, x -> x.piece(11, 8, 6));
    }

    private static void whatWouldBeGivenUp() {
        Supplier<Lotfolio> great = () -> {
            Lotfolio x = new Lotfolio();
            x.buy(0, 0, 9999, 0, 0);
            x.split(0, 0, 10, 1, 0);
            x.split(0, 0, 10, 1, 0);
            return x;
        };
        at = "23 given: units are out of range";
        ends(ARGUMENT, great, 1, 99999, (x, units) -> x.given(0, units, 0, 0));
        at = "23 given: custom is out of range";
        ends(ARGUMENT, great, 0, 6, (x, custom) -> x.given(0, 1, custom, 0));
        at = "23 given: LOT is out of range";
        ends(ARGUMENT, great, 0, 999, (x, lot) -> x.given(0, 1, 0, lot));
        for (int i = 0; i < 7; i++) {
            int custom = i;
            refused(ARGUMENT, great, x -> x.given(0, 1, custom, -1), x -> x.given(0, 1, custom, 1000));
        }
        at = "23 given: stock is out of range";
        Supplier<Lotfolio> all = () -> {
            Lotfolio x = new Lotfolio();
            for (int stock = 0; stock < 6; stock++) {
                x.buy(stock, 0, 1, 1, 0);
            }
            return x;
        };
        ends(ARGUMENT, all, 0, 5, (x, stock) -> x.given(stock, 1, 0, 0));
        at = "23 given: the STOCK has not so many units";
        for (int i = 0; i < 7; i++) {
            int custom = i;
            is(1360, () -> tenLots().get().given(0, 55, custom, 9));
            refused(STATE, tenLots(), x -> x.given(0, 56, custom, 9), x -> x.given(1, 1, custom, 9));
        }
        at = "23 given: by TOLD there is no such LOT of it";
        refused(STATE, all, x -> x.given(0, 1, TOLD, 1), x -> x.given(5, 1, TOLD, 0), x -> x.given(0, 1, TOLD, 6),
            x -> x.given(0, 1, TOLD, 999));
        refused(STATE, SellEdgeTest::sold, x -> x.given(0, 1, TOLD, 0));
        at = "23 given: IllegalArgumentException ahead of IllegalStateException";
        refused(ARGUMENT, Lotfolio::new, x -> x.given(6, 1, 0, 0), x -> x.given(0, 0, 0, 0), x -> x.given(0, 1, 7, 0),
            x -> x.given(0, 1, 4, 1000));
        at = "23 given: asking changes nothing";
        for (int i = 0; i < 7; i++) {
            int custom = i;
            asked(tenLots(), x -> x.given(0, 54, custom, 5));
        }
        at = "23 given: it may be asked with 60 ORDERS";
        Lotfolio full = rich(0, 0, 60);
        is(99999, () -> full.given(0, 99999, 0, 0) + 99999 - 9999 - 9);
    }

    public static void main(String[] args) {
        ofOneLot();
        allOfTenLots();
        first();
        dearestAndCheapest();
        told();
        mean();
        leastTakesTheMostCost();
        leastOfSeveral();
        aPartOfTheCost();
        freeUnits();
        thirtyDaysPass();
        onlyALossIsMatched();
        whichLotsMatch();
        whatIsBarred();
        whenAPieceIsLong();
        whatAPieceTells();
        whatWouldBeGivenUp();
        Check.end();
    }
}
