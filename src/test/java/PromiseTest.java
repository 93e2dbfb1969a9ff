/** Each promise of the document, by answers that were worked out by hand. */
final class PromiseTest extends Due {
    private static void promise1() {
        at = "1 Lotfolio";
        Lotfolio x = new Lotfolio();
        is(0, x::orders);
        for (int stock = 0; stock < 6; stock++) {
            int s = stock;
            is(0, () -> x.lots(s));
            is(0, () -> x.unitsAt(s, 9999));
            none(() -> x.priceAt(s, 9999));
        }
        sums(x, 0, 0, 0, 0, 0, 0, 0, 0);
        is(0, () -> x.fewest(0));
        is(0, () -> x.changed(2000, false));
        x.price(0, 0, 100);
        x.buy(0, 0, 10, 100, 0);
        is(0, () -> x.fewest(0));
        is(-1, () -> Lotfolio.NONE);
    }

    private static void promise2() {
        at = "2 day";
        Lotfolio x = new Lotfolio();
        is(0, () -> x.day(2000, 1, 1));
        is(31, () -> x.day(2000, 2, 1));
        is(59, () -> x.day(2000, 2, 29));
        is(60, () -> x.day(2000, 3, 1));
        is(366, () -> x.day(2001, 1, 1));
        is(1460, () -> x.day(2003, 12, 31));
        is(1461, () -> x.day(2004, 1, 1));
        is(9999, () -> x.day(2027, 5, 18));
        noDate(() -> x.day(2001, 2, 29), () -> x.day(2000, 2, 30), () -> x.day(2000, 4, 31),
            () -> x.day(2000, 0, 1), () -> x.day(2000, 13, 1), () -> x.day(2000, 1, 0),
            () -> x.day(2000, 1, 32), () -> x.day(2000, 1, -1), () -> x.day(1900, 2, 29),
            () -> x.day(2100, 2, 29), () -> x.day(1000000000, 1, 1), () -> x.day(-1000000000, 1, 1),
            () -> x.day(MIN, MIN, MIN), () -> x.day(MAX, MAX, MAX), () -> x.day(-1, 2, 29));
        arg(() -> x.day(1999, 12, 31), () -> x.day(2027, 5, 19), () -> x.day(2028, 2, 29),
            () -> x.day(1600, 2, 29), () -> x.day(999999999, 12, 31), () -> x.day(-999999999, 1, 1),
            () -> x.day(-4, 2, 29), () -> x.day(0, 2, 29), () -> x.day(11760980, 1, 1));
    }

    private static void promise3() {
        at = "3 date";
        Lotfolio x = new Lotfolio();
        is(20000101, () -> x.date(0));
        is(20000131, () -> x.date(30));
        is(20000201, () -> x.date(31));
        is(20000229, () -> x.date(59));
        is(20000301, () -> x.date(60));
        is(20001231, () -> x.date(365));
        is(20010101, () -> x.date(366));
        is(20270518, () -> x.date(9999));
        for (int day = 0; day <= 9999; day++) {
            int d = day;
            Lotfolio y = new Lotfolio();
            int date = y.date(day);
            is(d, () -> y.day(date / 10000, date / 100 % 100, date % 100));
        }
        arg(() -> x.date(-1), () -> x.date(10000), () -> x.date(MIN), () -> x.date(MAX));
    }

    private static void promise4() {
        at = "4 price";
        Lotfolio x = new Lotfolio();
        is(1, () -> x.price(0, 50, 0));
        is(2, () -> x.price(0, 10, 99999));
        is(3, () -> x.price(0, 9999, 7));
        is(3, () -> x.price(0, 50, 8));
        is(1, () -> x.price(5, 0, 1));
        is(8, () -> x.priceAt(0, 9998));
        is(99999, () -> x.priceAt(0, 49));
        arg(() -> x.price(-1, 0, 0), () -> x.price(6, 0, 0), () -> x.price(0, -1, 0),
            () -> x.price(0, 10000, 0), () -> x.price(0, 0, -1), () -> x.price(0, 0, 100000));
        is(3, () -> x.price(0, 50, 8));
        Lotfolio many = new Lotfolio();
        for (int i = 0; i < 500; i++) {
            int told = i;
            is(i + 1, () -> many.price(3, told * 7 % 9000, told));
        }
        is(499, () -> many.priceAt(3, 499 * 7));
        is(1, () -> many.priceAt(3, 13));
    }

    private static void promise5() {
        at = "5 priceAt";
        Lotfolio x = new Lotfolio();
        x.price(2, 100, 5);
        x.price(2, 200, 0);
        none(() -> x.priceAt(2, 99), () -> x.priceAt(1, 9999));
        is(5, () -> x.priceAt(2, 100));
        is(5, () -> x.priceAt(2, 199));
        is(0, () -> x.priceAt(2, 200));
        is(0, () -> x.priceAt(2, 9999));
        arg(() -> x.priceAt(6, 0), () -> x.priceAt(-1, 0), () -> x.priceAt(2, -1), () -> x.priceAt(2, 10000));
    }

    private static void promise6() {
        at = "6 buy";
        Lotfolio x = new Lotfolio();
        is(0, () -> x.buy(0, 5, 3, 100, 7));
        is(1, () -> x.buy(5, 5, 9999, 99999, 9999));
        lot(x, 0, 0, 0, 5, 3, 307, 3);
        lot(x, 5, 0, 1, 5, 9999, 999900000, 9999);
        sums(x, -999900307, 999900307, 0, 0, 0, 0, 999900307, 0);
        is(2, () -> x.buy(1, 5, 1, 0, 0));
        lot(x, 1, 0, 2, 5, 1, 0, 1);
        arg(() -> x.buy(-1, 5, 1, 1, 1), () -> x.buy(6, 5, 1, 1, 1), () -> x.buy(0, -1, 1, 1, 1),
            () -> x.buy(0, 10000, 1, 1, 1), () -> x.buy(0, 5, 0, 1, 1), () -> x.buy(0, 5, 10000, 1, 1),
            () -> x.buy(0, 5, 1, -1, 1), () -> x.buy(0, 5, 1, 100000, 1), () -> x.buy(0, 5, 1, 1, -1),
            () -> x.buy(0, 5, 1, 1, 10000), () -> x.buy(0, 4, 0, 1, 1));
        state(() -> x.buy(0, 4, 1, 1, 1));
        is(3, x::orders);
        Lotfolio ten = lots(10);
        int digest = ten.digest();
        state(() -> ten.buy(0, 200, 1, 1, 0));
        is(digest, ten::digest);
        is(10, () -> ten.buy(1, 200, 1, 1, 0));
        Lotfolio sixty = full(60);
        state(() -> sixty.buy(1, 100, 1, 1, 0));
        arg(() -> sixty.buy(1, 100, 0, 1, 0));
        is(59, () -> full(59).buy(1, 100, 1, 1, 0));
    }

    /** LOTS 0 of 10 units for 100, 1 of 10 for 300, 2 of 20 for 400, 3 of 10 for 300. */
    private static Lotfolio four() {
        Lotfolio x = new Lotfolio();
        x.buy(0, 10, 10, 10, 0);
        x.buy(0, 10, 10, 30, 0);
        x.buy(0, 11, 20, 20, 0);
        x.buy(0, 12, 10, 30, 0);
        return x;
    }

    private static void sold(int units, int custom, int lot, long... lotsUnitsAndCosts) {
        Lotfolio x = four();
        at = "7 sell " + units + " by " + custom;
        long digest = x.digest();
        long all = 0;
        for (int i = 2; i < lotsUnitsAndCosts.length; i += 3) {
            all += lotsUnitsAndCosts[i];
        }
        long gives = all;
        is(gives, () -> x.given(0, units, custom, lot));
        is(digest, x::digest);
        is(4, () -> x.sell(0, 500, units, 25, custom, lot));
        is(lotsUnitsAndCosts.length / 3, () -> x.pieces(4));
        for (int i = 0; i < lotsUnitsAndCosts.length; i += 3) {
            long gain = 25 * lotsUnitsAndCosts[i + 1] - lotsUnitsAndCosts[i + 2];
            piece(x, 4, i / 3, lotsUnitsAndCosts[i], lotsUnitsAndCosts[i + 1], lotsUnitsAndCosts[i + 2], gain, 1,
                0, gain < 0 ? lotsUnitsAndCosts[i + 1] : 0);
        }
        sums(x, 25 * units - 1100, 1100 - all, 25 * units - all, 0, 0, 0, 1100, all);
    }

    private static void promise7() {
        sold(15, 0, 0, 0, 10, 100, 1, 5, 150);
        sold(50, 0, 0, 0, 10, 100, 1, 10, 300, 2, 20, 400, 3, 10, 300);
        sold(15, 1, 0, 3, 10, 300, 2, 5, 100);
        sold(25, 2, 0, 1, 10, 300, 3, 10, 300, 2, 5, 100);
        sold(35, 3, 0, 0, 10, 100, 2, 20, 400, 1, 5, 150);
        sold(15, 4, 2, 2, 15, 300);
        sold(35, 4, 2, 2, 20, 400, 0, 10, 100, 1, 5, 150);
        sold(15, 5, 0, 0, 10, 220, 1, 5, 110);
        sold(5, 6, 0, 1, 5, 150);
        sold(10, 6, 0, 1, 10, 300);
        sold(15, 6, 0, 3, 10, 300, 1, 5, 150);
        sold(20, 6, 0, 3, 10, 300, 1, 10, 300);
        sold(25, 6, 0, 1, 10, 300, 3, 10, 300, 2, 5, 100);
        sold(50, 6, 0, 1, 10, 300, 2, 20, 400, 3, 10, 300, 0, 10, 100);
        at = "7 sell";
        Lotfolio x = four();
        x.sell(0, 20, 15, 25, 5, 999);
        lot(x, 0, 0, 1, 10, 5, 110, 5);
        lot(x, 0, 1, 2, 11, 20, 440, 20);
        lot(x, 0, 2, 3, 12, 10, 220, 10);
        is(5, () -> x.sell(0, 20, 1, 0, 6, 0));
        int digest = x.digest();
        state(() -> x.sell(0, 19, 1, 1, 0, 0), () -> x.sell(0, 20, 35, 1, 0, 0),
            () -> x.sell(0, 20, 1, 1, 4, 0), () -> x.sell(0, 20, 1, 1, 4, 7), () -> x.sell(1, 20, 1, 1, 0, 0),
            () -> x.sell(0, 20, 99999, 1, 5, 0));
        arg(() -> x.sell(6, 20, 1, 1, 0, 0), () -> x.sell(0, 10000, 1, 1, 0, 0), () -> x.sell(0, 20, 0, 1, 0, 0),
            () -> x.sell(0, 20, 100000, 1, 0, 0), () -> x.sell(0, 20, 1, -1, 0, 0),
            () -> x.sell(0, 20, 1, 100000, 0, 0), () -> x.sell(0, 20, 1, 1, -1, 0),
            () -> x.sell(0, 20, 1, 1, 7, 0), () -> x.sell(0, 20, 1, 1, 0, -1), () -> x.sell(0, 20, 1, 1, 0, 1000),
            () -> x.sell(0, 20, 1, 1, 4, 1000));
        is(digest, x::digest);
        is(6, () -> x.sell(0, 20, 34, 1, 4, 2));
        is(0, () -> x.lots(0));
        Lotfolio sixty = lots(1);
        for (int i = 1; i < 60; i++) {
            sixty.pay(0, 100, 0);
        }
        state(() -> sixty.sell(0, 100, 1, 1, 0, 0));
        ties();
        longs();
        losses();
    }

    private static void ties() {
        at = "7 sell of equal lots";
        for (int units = 5; units <= 30; units += 5) {
            Lotfolio x = lots(3);
            x.sell(0, 200, units, 10, 6, 0);
            int[][] due = {{0}, {0}, {1, 0}, {1, 0}, {1, 2, 0}, {1, 2, 0}};
            int[] order = due[units / 5 - 1];
            is(order.length, () -> x.pieces(3));
            for (int i = 0; i < order.length; i++) {
                int place = i;
                is(order[i], () -> x.piece(3, place, 0));
            }
        }
        Lotfolio x = lots(3);
        x.sell(0, 200, 15, 10, 2, 0);
        is(0, () -> x.piece(3, 0, 0));
        is(1, () -> x.piece(3, 1, 0));
        at = "7 sell of lots without a cost";
        Lotfolio n = new Lotfolio();
        for (int i = 0; i < 3; i++) {
            n.buy(0, i, 10, 0, 0);
        }
        is(0, () -> n.given(0, 25, 6, 0));
        n.sell(0, 100, 15, 0, 6, 0);
        piece(n, 3, 0, 1, 10, 0, 0, 0, 0, 0);
        piece(n, 3, 1, 0, 5, 0, 0, 0, 0, 0);
        at = "7 sell of lots that are dear by a hair";
        Lotfolio y = new Lotfolio();
        y.buy(0, 0, 9999, 99998, 0);
        y.buy(0, 0, 9998, 99998, 1);
        y.buy(0, 0, 9997, 99998, 0);
        y.sell(0, 400, 9999, 0, 2, 0);
        is(1, () -> y.piece(3, 0, 0));
        is(0, () -> y.piece(3, 1, 0));
        y.sell(0, 400, 1, 0, 3, 0);
        is(0, () -> y.piece(4, 0, 0));
    }

    private static void longs() {
        at = "7 long";
        int[][] cases = {{0, 366, 0}, {0, 367, 1}, {58, 58 + 366, 0}, {58, 58 + 367, 1}, {59, 59 + 365, 0},
            {59, 59 + 366, 1}, {60, 60 + 365, 0}, {60, 60 + 366, 1}, {400, 765, 0}, {400, 766, 1},
            {1154, 1519, 0}, {1154, 1520, 1}, {1155, 1521, 0}, {1155, 1522, 1}, {9600, 9965, 0}, {9600, 9966, 1}};
        for (int[] c : cases) {
            Lotfolio x = new Lotfolio();
            x.buy(0, c[0], 1, 1, 0);
            x.sell(0, c[1], 1, 5, 0, 0);
            is(c[2], () -> x.piece(1, 0, 4));
            int year = x.date(c[1]) / 10000;
            is(4, () -> x.gains(year, c[2] == 1));
            is(0, () -> x.gains(year, c[2] == 0));
        }
    }

    private static void losses() {
        at = "7 a loss and a lot ahead of it";
        Lotfolio x = new Lotfolio();
        x.buy(0, 69, 10, 100, 0);
        x.buy(0, 70, 4, 50, 0);
        x.buy(0, 80, 5, 50, 0);
        x.sell(0, 100, 10, 67, 0, 0);
        piece(x, 3, 0, 0, 10, 1000, -330 + 132 + 165, 0, 297, 1);
        lot(x, 0, 0, 1, 70, 4, 200 + 132, 0);
        lot(x, 0, 1, 2, 80, 5, 250 + 165, 0);
        sums(x, -1450 + 670, 747, -33, 0, 0, 297, 1450, 1000);
        is(-33, () -> x.gains(2000, false));
        x.pay(0, 130, 0);
        is(1, () -> x.piece(3, 0, 6));
        x.buy(0, 130, 3, 1, 0);
        piece(x, 3, 0, 0, 10, 1000, 0, 0, 330, 0);
        lot(x, 0, 2, 3, 130, 3, 36, 2);

        at = "7 a loss, and lots that are too old, or sold from";
        Lotfolio y = new Lotfolio();
        y.buy(0, 69, 10, 50, 0);
        y.buy(0, 100, 10, 100, 0);
        y.sell(0, 100, 5, 60, 1, 0);
        piece(y, 2, 0, 1, 5, 500, -200, 0, 0, 5);
        y.buy(1, 130, 9, 1, 0);
        is(5, () -> y.piece(2, 0, 6));
        y.buy(1, 131, 9, 1, 0);
        is(0, () -> y.piece(2, 0, 6));
        is(5, () -> y.buy(0, 131, 9, 1, 0));
        piece(y, 2, 0, 1, 5, 500, -200, 0, 0, 0);
        lot(y, 0, 2, 4, 131, 9, 9, 9);

        at = "7 losses wait in the order in which they were sold";
        Lotfolio z = new Lotfolio();
        z.buy(0, 0, 3, 100, 0);
        z.buy(0, 1, 4, 100, 0);
        z.sell(0, 200, 5, 90, 1, 0);
        z.sell(0, 205, 2, 200, 0, 0);
        z.buy(0, 230, 5, 1, 0);
        piece(z, 2, 0, 1, 4, 400, 0, 0, 40, 0);
        piece(z, 2, 1, 0, 1, 100, 0, 0, 10, 0);
        piece(z, 3, 0, 0, 2, 200, 200, 0, 0, 0);
        lot(z, 0, 0, 2, 230, 5, 55, 0);

        at = "7 free units are no more than are left";
        Lotfolio f = new Lotfolio();
        f.buy(0, 100, 10, 10, 0);
        f.buy(0, 101, 10, 10, 0);
        f.sell(0, 102, 4, 5, 0, 0);
        lot(f, 0, 0, 0, 100, 6, 60, 6);
        lot(f, 0, 1, 1, 101, 10, 120, 6);
        f.sell(0, 103, 2, 100, 1, 0);
        lot(f, 0, 1, 1, 101, 8, 96, 6);
        f.sell(0, 103, 4, 100, 1, 0);
        lot(f, 0, 1, 1, 101, 4, 48, 4);
    }

    private static void promise8() {
        at = "8 split";
        Lotfolio x = new Lotfolio();
        x.buy(0, 0, 3, 100, 0);
        x.buy(0, 1, 1, 50, 0);
        x.buy(0, 2, 1, 60, 0);
        x.buy(0, 3, 4, 70, 0);
        is(4, () -> x.split(0, 3, 1, 3, 100));
        lot(x, 0, 0, 0, 0, 1, 300, 0);
        lot(x, 0, 1, 3, 3, 2, 50 + 60 + 280, 0);
        is(2, () -> x.lots(0));
        sums(x, -690, 690, 0, 0, 0, 0, 690, 0);
        is(5, () -> x.split(0, 3, 1, 2, 99));
        lot(x, 0, 0, 3, 3, 1, 690, 0);
        sums(x, -690 + 49, 690, 0, 0, 49);
        is(6, () -> x.split(0, 400, 2, 3, 100));
        is(0, () -> x.lots(0));
        sums(x, -641 + 66, 0, -690, 0, 115, 0, 690, 0);
        is(-690, () -> x.gains(2001, false));
        is(0, () -> x.gains(2001, true));

        at = "8 split: cost to the lot ahead";
        Lotfolio a = new Lotfolio();
        a.buy(0, 0, 2, 100, 0);
        a.buy(0, 1, 1, 50, 0);
        a.split(0, 3, 1, 2, 0);
        is(1, () -> a.lots(0));
        lot(a, 0, 0, 0, 0, 1, 250, 0);

        at = "8 split a for 1 and 1 for a";
        Lotfolio y = four();
        y.split(0, 20, 7, 1, 5);
        lot(y, 0, 2, 2, 11, 140, 400, 0);
        y.split(0, 20, 1, 7, 5);
        lot(y, 0, 0, 0, 10, 10, 100, 0);
        lot(y, 0, 1, 1, 10, 10, 300, 0);
        lot(y, 0, 2, 2, 11, 20, 400, 0);
        lot(y, 0, 3, 3, 12, 10, 300, 0);

        at = "8 split: no loss waits any more";
        Lotfolio z = new Lotfolio();
        z.buy(0, 0, 3, 100, 0);
        z.sell(0, 1, 3, 1, 0, 0);
        z.split(1, 1, 1, 1, 0);
        is(3, () -> z.piece(1, 0, 6));
        z.split(0, 1, 1, 1, 0);
        is(0, () -> z.piece(1, 0, 6));
        z.buy(0, 1, 3, 100, 0);
        lot(z, 0, 0, 1, 1, 3, 300, 3);

        at = "8 split: a million units";
        Lotfolio m = new Lotfolio();
        m.buy(0, 0, 1000, 1, 0);
        m.split(0, 0, 10, 1, 0);
        m.split(0, 0, 10, 1, 0);
        is(3, () -> m.split(0, 0, 10, 1, 0));
        is(1000000, () -> m.lot(0, 0, 2));
        is(4, () -> m.split(0, 0, 1, 1, 0));
        int digest = m.digest();
        state(() -> m.split(0, 0, 10, 9, 0));
        is(digest, m::digest);
        is(5, () -> m.buy(0, 0, 9, 1, 0));
        state(() -> m.split(0, 0, 1, 1, 0));
        is(6, () -> m.split(0, 0, 9, 10, 0));
        arg(() -> m.split(6, 0, 1, 1, 0), () -> m.split(0, -1, 1, 1, 0), () -> m.split(0, 0, 0, 1, 0),
            () -> m.split(0, 0, 11, 1, 0), () -> m.split(0, 0, 1, 0, 0), () -> m.split(0, 0, 1, 11, 0),
            () -> m.split(0, 0, 1, 1, -1), () -> m.split(0, 0, 1, 1, 100000));
        state(() -> full(60).split(0, 100, 1, 1, 0), () -> full(1).split(0, 99, 1, 1, 0));
    }

    private static void promise9() {
        at = "9 pay";
        Lotfolio x = four();
        is(4, () -> x.pay(0, 365, 7));
        is(5, () -> x.pay(1, 366, 9999));
        is(6, () -> x.pay(0, 366, 0));
        is(7, () -> x.pay(0, 366, 9999));
        sums(x, -1100 + 350 + 499950, 1100, 0, 500300, 0, 0, 1100, 0);
        is(350, () -> x.income(2000));
        is(499950, () -> x.income(2001));
        arg(() -> x.pay(6, 366, 1), () -> x.pay(0, 10000, 1), () -> x.pay(0, 366, -1), () -> x.pay(0, 366, 10000));
        state(() -> x.pay(0, 365, 1), () -> full(60).pay(0, 100, 1));
    }

    private static void promise10() {
        at = "10 again";
        Lotfolio x = new Lotfolio();
        x.buy(0, 0, 10, 100, 0);
        is(1, () -> x.again(0, 30, 7, 16));
        lot(x, 0, 1, 1, 30, 4, 64, 4);
        sums(x, -1000 + 70 - 64, 1064, 0, 70, 0, 0, 1064, 0);
        is(2, () -> x.again(0, 30, 1, 15));
        is(2, () -> x.lots(0));
        is(84, () -> x.income(2000));
        is(3, () -> x.again(1, 30, 9999, 1));
        is(0, () -> x.lots(1));
        is(4, () -> x.again(0, 30, 0, 1));
        arg(() -> x.again(6, 30, 1, 1), () -> x.again(0, -1, 1, 1), () -> x.again(0, 30, -1, 1),
            () -> x.again(0, 30, 10000, 1), () -> x.again(0, 30, 1, 0), () -> x.again(0, 30, 1, 100000));
        state(() -> x.again(0, 29, 1, 1), () -> full(60).again(0, 100, 1, 1));
        Lotfolio ten = lots(10);
        int digest = ten.digest();
        state(() -> ten.again(0, 200, 1, 100));
        is(digest, ten::digest);
        is(10, () -> ten.again(0, 200, 1, 101));
        Lotfolio m = new Lotfolio();
        m.buy(0, 0, 1000, 1, 0);
        m.split(0, 0, 10, 1, 0);
        m.split(0, 0, 10, 1, 0);
        state(() -> m.again(0, 0, 9001, 1000));
        is(3, () -> m.again(0, 0, 9000, 1000));
        is(900000, () -> m.lot(0, 1, 2));
        is(4, () -> m.buy(0, 0, 1, 1, 0));
        state(() -> m.again(0, 0, 1, 1));
        is(5, () -> m.again(0, 0, 0, 1));

        at = "10 again: a loss is matched with it";
        Lotfolio y = new Lotfolio();
        y.buy(0, 0, 10, 100, 0);
        y.sell(0, 100, 4, 50, 0, 0);
        y.again(0, 110, 10, 30);
        piece(y, 1, 0, 0, 4, 400, -100, 0, 100, 2);
        lot(y, 0, 1, 1, 110, 2, 160, 0);
    }

    private static void promise11() {
        at = "11 spin";
        Lotfolio x = new Lotfolio();
        x.buy(0, 1, 3, 100, 0);
        x.buy(0, 2, 1, 101, 0);
        x.buy(1, 3, 5, 10, 0);
        x.buy(0, 4, 5, 100, 0);
        x.buy(0, 4, 1, 999, 0);
        is(5, () -> x.spin(0, 9, 1, 1, 2, 333));
        is(5, () -> x.lots(1));
        lot(x, 1, 0, 5, 1, 1, 99, 0);
        lot(x, 1, 1, 6, 2, 1, 33, 0);
        lot(x, 1, 2, 2, 3, 5, 50, 0);
        lot(x, 1, 3, 7, 4, 2, 166, 0);
        lot(x, 1, 4, 8, 4, 1, 332, 0);
        is(4, () -> x.lots(0));
        lot(x, 0, 0, 0, 1, 3, 201, 0);
        lot(x, 0, 1, 1, 2, 1, 68, 0);
        lot(x, 0, 2, 3, 4, 5, 334, 0);
        lot(x, 0, 3, 4, 4, 1, 667, 0);
        Lotfolio n = new Lotfolio();
        n.buy(0, 1, 1, 100, 0);
        n.buy(0, 2, 1, 101, 0);
        n.spin(0, 9, 5, 1, 2, 1000);
        is(1, () -> n.lots(5));
        lot(n, 5, 0, 2, 2, 1, 101, 0);
        lot(n, 0, 0, 0, 1, 1, 100, 0);
        lot(n, 0, 1, 1, 2, 1, 0, 0);
        sums(n, -201, 201, 0, 0, 0, 0, 201, 0);

        at = "11 spin: a lot keeps its place by its number";
        Lotfolio k = new Lotfolio();
        k.buy(0, 4, 1, 100, 0);
        k.buy(1, 4, 1, 100, 0);
        k.spin(0, 4, 1, 1, 1, 0);
        lot(k, 1, 0, 1, 4, 1, 100, 0);
        lot(k, 1, 1, 2, 4, 1, 0, 0);

        at = "11 spin: no loss of both waits any more";
        for (int which = 0; which < 2; which++) {
            Lotfolio z = new Lotfolio();
            z.buy(which, 0, 3, 100, 0);
            z.sell(which, 1, 3, 1, 0, 0);
            z.spin(2, 1, 3, 1, 1, 0);
            is(3, () -> z.piece(1, 0, 6));
            z.spin(0, 1, 1, 1, 1, 0);
            is(0, () -> z.piece(1, 0, 6));
        }
        roomy("11 spin", true);
        arg(() -> x.spin(0, 9, 0, 1, 1, 0), () -> x.spin(6, 9, 0, 1, 1, 0), () -> x.spin(0, 10000, 1, 1, 1, 0),
            () -> x.spin(0, 9, 6, 1, 1, 0), () -> x.spin(0, 9, -1, 1, 1, 0), () -> x.spin(0, 9, 1, 0, 1, 0),
            () -> x.spin(0, 9, 1, 11, 1, 0), () -> x.spin(0, 9, 1, 1, 0, 0), () -> x.spin(0, 9, 1, 1, 11, 0),
            () -> x.spin(0, 9, 1, 1, 1, -1), () -> x.spin(0, 9, 1, 1, 1, 1001));
        state(() -> x.spin(0, 8, 1, 1, 1, 0), () -> full(60).spin(0, 100, 1, 1, 1, 0));
    }

    private static int onto(Lotfolio x, boolean spins, int stock, int other, int a, int b) {
        return spins ? x.spin(stock, 300, other, a, b, 0) : x.merge(stock, 300, other, a, b, 0);
    }

    /** What SPIN and MERGER both refuse: too many LOTS, or units, of the other STOCK. */
    private static void roomy(String name, boolean spins) {
        at = name + ": room";
        Lotfolio x = lots(5);
        for (int i = 0; i < 6; i++) {
            x.buy(1, 200, 1, 1, 0);
        }
        int digest = x.digest();
        state(() -> onto(x, spins, 0, 1, 1, 1), () -> onto(x, spins, 1, 0, 1, 1));
        is(digest, x::digest);
        is(11, () -> onto(x, spins, 1, 0, 1, 2));
        is(8, () -> x.lots(0));
        Lotfolio m = new Lotfolio();
        m.buy(0, 0, 1000, 1, 0);
        m.buy(1, 0, 9000, 1, 0);
        m.split(0, 0, 10, 1, 0);
        m.split(0, 0, 10, 1, 0);
        m.split(1, 0, 10, 1, 0);
        m.split(1, 0, 10, 1, 0);
        is(6, () -> onto(m, spins, 0, 1, 1, 1));
        is(1000000, () -> m.unitsAt(1, 9999));
        m.buy(1, 300, 1, 1, 0);
        state(() -> onto(m, spins, 2, 1, 1, 1));
        m.buy(2, 300, 1, 1, 0);
        state(() -> onto(m, spins, 2, 1, 1, 1));
        m.sell(1, 300, 2, 1, 1, 0);
        is(10, () -> onto(m, spins, 2, 1, 1, 1));
    }

    private static void promise12() {
        at = "12 merge";
        Lotfolio x = new Lotfolio();
        x.buy(0, 1, 3, 100, 0);
        x.buy(1, 3, 5, 10, 0);
        x.buy(0, 3, 1, 101, 0);
        x.buy(0, 4, 3, 100, 0);
        is(4, () -> x.merge(0, 9, 1, 1, 3, 100));
        is(0, () -> x.lots(0));
        is(3, () -> x.lots(1));
        lot(x, 1, 0, 0, 1, 1, 300, 0);
        lot(x, 1, 1, 1, 3, 5, 50, 0);
        lot(x, 1, 2, 3, 4, 1, 401, 0);
        sums(x, -751 + 33, 751, 0, 0, 33, 0, 751, 0);
        is(5, () -> x.merge(1, 9, 0, 1, 10, 100));
        is(0, () -> x.lots(1) + x.lots(0));
        sums(x, -718 + 70, 0, -751, 0, 103, 0, 751, 0);

        at = "12 merge: a lot keeps its place by its number";
        Lotfolio k = new Lotfolio();
        k.buy(0, 4, 1, 100, 0);
        k.buy(1, 4, 1, 101, 0);
        k.buy(0, 4, 1, 102, 0);
        k.merge(1, 4, 0, 2, 1, 0);
        lot(k, 0, 0, 0, 4, 1, 100, 0);
        lot(k, 0, 1, 1, 4, 2, 101, 0);
        lot(k, 0, 2, 2, 4, 1, 102, 0);

        at = "12 merge: no loss of both waits any more";
        for (int which = 0; which < 2; which++) {
            Lotfolio z = new Lotfolio();
            z.buy(which, 0, 3, 100, 0);
            z.sell(which, 1, 3, 1, 0, 0);
            z.merge(2, 1, 3, 1, 1, 0);
            is(3, () -> z.piece(1, 0, 6));
            z.merge(0, 1, 1, 1, 1, 0);
            is(0, () -> z.piece(1, 0, 6));
        }
        at = "12 merge: a lot that is lost is lost though the other stock has some";
        Lotfolio l = new Lotfolio();
        l.buy(0, 0, 1, 77, 0);
        l.buy(1, 0, 1, 5, 0);
        l.merge(0, 1, 1, 1, 2, 9);
        lot(l, 1, 0, 1, 0, 1, 5, 0);
        is(-77, () -> l.gains(2000, false));
        is(4, () -> l.sum(4));
        roomy("12 merge", false);
        arg(() -> x.merge(0, 9, 0, 1, 1, 0), () -> x.merge(6, 9, 0, 1, 1, 0), () -> x.merge(0, 10000, 1, 1, 1, 0),
            () -> x.merge(0, 9, 6, 1, 1, 0), () -> x.merge(0, 9, -1, 1, 1, 0), () -> x.merge(0, 9, 1, 0, 1, 0),
            () -> x.merge(0, 9, 1, 11, 1, 0), () -> x.merge(0, 9, 1, 1, 0, 0), () -> x.merge(0, 9, 1, 1, 11, 0),
            () -> x.merge(0, 9, 1, 1, 1, -1), () -> x.merge(0, 9, 1, 1, 1, 100000));
        state(() -> x.merge(0, 8, 1, 1, 1, 0), () -> full(60).merge(0, 100, 1, 1, 1, 0));
    }

    private static void promise13() {
        at = "13 plan";
        Lotfolio x = new Lotfolio();
        x.price(0, 0, 100);
        x.price(0, x.day(2001, 3, 1), 50);
        x.price(0, x.day(2001, 5, 1), 999);
        x.price(0, x.day(2001, 6, 1), 40);
        is(5, () -> x.plan(0, x.day(2001, 1, 31), 6, 998));
        int[] days = {20010131, 20010228, 20010402, 20010430, 20010702};
        int[] units = {9, 9, 19, 19, 24};
        int[] prices = {100, 100, 50, 50, 40};
        for (int i = 0; i < 5; i++) {
            int order = i;
            is(0, () -> x.order(order, 0));
            is(days[i], () -> x.date(x.order(order, 1)));
            is(0, () -> x.order(order, 2));
            is(units[i], () -> x.order(order, 3));
            is(prices[i], () -> x.order(order, 4));
            is(0, () -> x.order(order, 5));
        }
        int digest = x.digest();
        state(() -> x.plan(0, x.day(2001, 6, 1), 1, 998), () -> x.plan(1, 600, 1, 5),
            () -> x.plan(0, x.day(2001, 7, 3), 6, 998));
        is(digest, x::digest);
        is(0, () -> x.plan(0, x.day(2001, 7, 3), 24, 39));
        is(0, () -> x.plan(0, 0, 24, 39));
        is(0, () -> x.plan(0, x.day(2001, 7, 3), 1, 400000));
        is(1, () -> x.plan(0, x.day(2001, 7, 3), 1, 399999));
        arg(() -> x.plan(6, 600, 1, 5), () -> x.plan(0, 10000, 1, 5), () -> x.plan(0, -1, 1, 5),
            () -> x.plan(0, 600, 0, 5), () -> x.plan(0, 600, 25, 5), () -> x.plan(0, 600, 1, 0),
            () -> x.plan(0, 600, 1, 10000000), () -> x.plan(1, 9999, 2, 5), () -> x.plan(0, 9980, 2, 5));
        Lotfolio w = new Lotfolio();
        w.price(0, 0, 1);
        is(1, () -> w.plan(0, 0, 1, 1));
        is(2, () -> w.order(0, 1));
        is(1, () -> w.plan(0, 8, 1, 1));
        is(9, () -> w.order(1, 1));
        is(1, () -> w.plan(0, 9999, 1, 9999));
        Lotfolio z = new Lotfolio();
        z.price(0, 0, 5);
        z.price(0, 40, 0);
        state(() -> z.plan(0, 0, 3, 5));
        is(0, z::orders);
        is(1, () -> z.plan(0, 0, 1, 5));
        Lotfolio sixty = full(58);
        sixty.price(1, 0, 5);
        state(() -> sixty.plan(1, 200, 3, 5));
        is(58, sixty::orders);
        is(2, () -> sixty.plan(1, 200, 2, 5));
        is(0, () -> sixty.plan(1, 200, 2, 4));
        state(() -> sixty.plan(1, 400, 1, 5));
        Lotfolio ten = new Lotfolio();
        ten.price(0, 0, 5);
        state(() -> ten.plan(0, 0, 11, 5));
        is(10, () -> ten.plan(0, 0, 10, 5));
        Lotfolio feb = new Lotfolio();
        feb.price(0, 0, 5);
        feb.plan(0, feb.day(2003, 11, 30), 4, 5);
        is(20031201, () -> feb.date(feb.order(0, 1)));
        is(20031230, () -> feb.date(feb.order(1, 1)));
        is(20040130, () -> feb.date(feb.order(2, 1)));
        is(20040301, () -> feb.date(feb.order(3, 1)));
    }

    private static void promise14() {
        at = "14 correct";
        Lotfolio x = lots(2);
        x.sell(0, 200, 15, 20, 0, 0);
        x.pay(0, 200, 3);
        int digest = x.digest();
        is(10, () -> x.correct(0, 1, 40));
        piece(x, 2, 0, 0, 10, 400, -200, 0, 0, 10);
        is(450, () -> x.sum(7));
        is(40, () -> x.correct(0, 1, 10));
        is(digest, x::digest);
        is(0, () -> x.correct(2, 2, 1));
        piece(x, 2, 0, 1, 10, 100, 100, 0, 0, 0);
        is(1, () -> x.correct(2, 2, 0));
        is(digest, x::digest);
        is(0, () -> x.correct(1, 2, 9999));
        is(3, () -> x.correct(3, 0, 9));
        index(() -> x.correct(-1, 0, 1), () -> x.correct(4, 0, 1), () -> x.correct(0, -1, 1),
            () -> x.correct(0, 3, 1), () -> x.correct(2, 4, 0), () -> x.correct(3, 1, 0), () -> x.correct(0, 5, 0),
            () -> x.correct(MIN, 0, 0), () -> x.correct(0, MAX, MAX), () -> x.correct(3, 1, -5));
        int now = x.digest();
        long moved = x.changed(2000, false);
        state(() -> x.correct(0, 0, 0), () -> x.correct(0, 0, 10000), () -> x.correct(0, 0, 4),
            () -> x.correct(2, 0, 21), () -> x.correct(2, 2, 7), () -> x.correct(2, 3, 1000),
            () -> x.correct(3, 0, -1), () -> x.correct(0, 1, 100000));
        is(now, x::digest);
        is(moved, () -> x.changed(2000, false));
        is(10, () -> x.correct(0, 0, 5));
        is(0, () -> x.lots(0));

        at = "14 correct: again and again";
        Lotfolio z = lots(10);
        for (int i = 0; i < 9; i++) {
            z.sell(0, 200, 11, 10, 6, 0);
        }
        int first = z.digest();
        for (int i = 0; i < 100; i++) {
            z.correct(18, 1, 11);
            z.correct(18, 1, 10);
            is(first, z::digest);
        }
        at = "14 correct: kinds, and the other stock";
        Lotfolio y = lots(1);
        y.spin(0, 200, 1, 1, 1, 500);
        y.merge(1, 200, 0, 1, 1, 0);
        y.split(0, 200, 2, 1, 0);
        y.again(0, 200, 5, 10);
        int start = y.digest();
        index(() -> y.correct(1, 4, 0), () -> y.correct(2, 4, 0), () -> y.correct(3, 3, 0), () -> y.correct(4, 2, 0));
        state(() -> y.correct(1, 0, 0), () -> y.correct(2, 0, 1), () -> y.correct(1, 0, 6), () -> y.correct(1, 3, 1001),
            () -> y.correct(2, 1, 0), () -> y.correct(3, 1, 11), () -> y.correct(4, 1, 0));
        is(0, () -> y.correct(2, 0, 2));
        is(1, () -> y.lots(2));
        is(2, () -> y.correct(2, 0, 0));
        is(start, y::digest);
        is(5, () -> y.correct(4, 0, 0));
        is(0, () -> y.correct(4, 0, 5));
        is(start, y::digest);
    }

    private static void promise15() {
        at = "15 strike";
        Lotfolio x = lots(3);
        x.sell(0, 200, 15, 20, 0, 0);
        int digest = x.digest();
        is(3, () -> x.strike(1));
        lot(x, 0, 0, 1, 102, 5, 50, 5);
        is(102, () -> x.order(1, 1));
        is(1, () -> x.order(2, 0));
        is(15, () -> x.order(2, 3));
        is(2, () -> x.pieces(2));
        is(1, () -> x.piece(2, 1, 0));
        state(() -> x.strike(0));
        is(3, x::orders);
        index(() -> x.strike(-1), () -> x.strike(3), () -> x.strike(MAX), () -> x.strike(MIN));
        is(2, () -> x.strike(2));
        is(1, () -> x.strike(1));
        is(0, () -> x.strike(0));
        sums(x, 0, 0, 0, 0, 0, 0, 0, 0);
        index(() -> x.strike(0));
        is(0, () -> x.buy(0, 0, 1, 1, 0));
        Lotfolio y = lots(3);
        y.sell(0, 200, 15, 20, 0, 0);
        is(digest, y::digest);
        y.pay(0, 200, 5);
        is(4, () -> y.strike(4));
        is(digest, y::digest);
        Lotfolio full = full(60);
        is(59, () -> full.strike(30));
        is(59, () -> full.pay(0, 100, 1));
    }

    private static void promise16() {
        at = "16 changed";
        Lotfolio x = new Lotfolio();
        x.buy(0, 0, 10, 10, 0);
        x.sell(0, 100, 4, 20, 0, 0);
        x.sell(0, 400, 4, 20, 0, 0);
        is(0, () -> x.changed(2000, false));
        x.correct(0, 1, 15);
        is(-20, () -> x.changed(2000, false));
        is(-20, () -> x.changed(2001, true));
        is(0, () -> x.changed(2000, true));
        is(0, () -> x.changed(2001, false));
        is(0, () -> x.changed(2027, false));
        x.sell(0, 400, 1, 20, 0, 0);
        is(-20, () -> x.changed(2001, true));
        x.strike(2);
        is(-20, () -> x.changed(2001, true));
        is(0, () -> x.changed(2000, false));
        x.correct(0, 1, 15);
        is(0, () -> x.changed(2001, true));
        arg(() -> x.changed(1999, true), () -> x.changed(2028, false), () -> x.changed(MIN, false));
    }

    private static void promise17() {
        at = "17 orders";
        Lotfolio x = new Lotfolio();
        is(0, x::orders);
        x.buy(0, 0, 1, 1, 1);
        is(1, x::orders);
        Check.outcome(() -> x.sell(0, 0, 2, 1, 0, 0));
        is(1, x::orders);
        x.strike(0);
        is(0, x::orders);
        is(60, () -> full(60).orders());
    }

    private static void promise18() {
        at = "18 order";
        Lotfolio x = new Lotfolio();
        x.buy(1, 5, 30, 20, 10);
        x.sell(1, 6, 1, 2, 4, 0);
        x.split(1, 7, 2, 3, 4);
        x.pay(1, 8, 9);
        x.again(1, 9, 8, 700);
        x.spin(1, 10, 2, 3, 4, 5);
        x.merge(1, 11, 5, 4, 3, 2);
        int[][] due = {{0, 5, 1, 30, 20, 10, 0, 0}, {1, 6, 1, 1, 2, 4, 0, 0}, {2, 7, 1, 2, 3, 4, 0, 0},
            {3, 8, 1, 9, 0, 0, 0, 0}, {4, 9, 1, 8, 700, 0, 0, 0}, {5, 10, 1, 2, 3, 4, 5, 0},
            {6, 11, 1, 5, 4, 3, 2, 0}};
        for (int i = 0; i < due.length; i++) {
            for (int w = 0; w < 8; w++) {
                int order = i;
                int what = w;
                is(due[i][w], () -> x.order(order, what));
            }
        }
        index(() -> x.order(7, 0), () -> x.order(-1, 0), () -> x.order(7, 8), () -> x.order(MIN, -1));
        arg(() -> x.order(0, 8), () -> x.order(6, -1), () -> x.order(6, MAX));
    }

    private static void promise19() {
        at = "19 lots";
        Lotfolio x = lots(10);
        is(10, () -> x.lots(0));
        is(0, () -> x.lots(5));
        x.sell(0, 200, 25, 1, 0, 0);
        is(8, () -> x.lots(0));
        arg(() -> x.lots(6), () -> x.lots(-1));
    }

    private static void promise20() {
        at = "20 lot";
        Lotfolio x = lots(2);
        lot(x, 0, 1, 1, 101, 10, 100, 10);
        arg(() -> x.lot(6, 0, 0), () -> x.lot(-1, 0, 0), () -> x.lot(0, 0, 5), () -> x.lot(0, 0, -1),
            () -> x.lot(0, 2, 5), () -> x.lot(6, -1, 0));
        index(() -> x.lot(0, 2, 0), () -> x.lot(0, -1, 4), () -> x.lot(1, 0, 0), () -> x.lot(0, MAX, 0));
    }

    private static void promise21() {
        at = "21 pieces";
        Lotfolio x = lots(3);
        x.sell(0, 200, 21, 1, 0, 0);
        is(0, () -> x.pieces(0));
        is(3, () -> x.pieces(3));
        index(() -> x.pieces(4), () -> x.pieces(-1));
    }

    private static void promise22() {
        at = "22 piece";
        Lotfolio x = lots(3);
        x.sell(0, 200, 21, 1, 1, 0);
        piece(x, 3, 0, 2, 10, 100, -90, 0, 0, 10);
        piece(x, 3, 2, 0, 1, 10, -9, 0, 0, 1);
        x.buy(0, 230, 5, 1, 0);
        piece(x, 3, 0, 2, 10, 100, -45, 0, 45, 5);
        piece(x, 3, 1, 1, 10, 100, -90, 0, 0, 10);
        x.pay(3, 231, 0);
        piece(x, 3, 0, 2, 10, 100, -45, 0, 45, 0);
        piece(x, 3, 1, 1, 10, 100, -90, 0, 0, 0);
        x.strike(5);
        piece(x, 3, 0, 2, 10, 100, -45, 0, 45, 5);
        index(() -> x.piece(5, 0, 0), () -> x.piece(-1, 0, 0), () -> x.piece(3, 3, 0), () -> x.piece(3, -1, 0),
            () -> x.piece(0, 0, 0), () -> x.piece(3, 3, 7));
        arg(() -> x.piece(3, 0, 7), () -> x.piece(3, 0, -1));
    }

    private static void promise23() {
        at = "23 given";
        Lotfolio x = four();
        int digest = x.digest();
        is(1100, () -> x.given(0, 50, 3, 0));
        is(22, () -> x.given(0, 1, 5, 0));
        is(20, () -> x.given(0, 1, 4, 2));
        is(30, () -> x.given(0, 1, 6, 999));
        state(() -> x.given(0, 51, 0, 0), () -> x.given(0, 1, 4, 4), () -> x.given(1, 1, 0, 0),
            () -> x.given(0, 99999, 6, 0));
        arg(() -> x.given(6, 1, 0, 0), () -> x.given(0, 0, 0, 0), () -> x.given(0, 100000, 0, 0),
            () -> x.given(0, 1, 7, 0), () -> x.given(0, 1, -1, 0), () -> x.given(0, 1, 0, -1),
            () -> x.given(0, 1, 0, 1000), () -> x.given(-1, 1, 0, 0));
        is(digest, x::digest);
    }

    private static void promise24() {
        at = "24 mean";
        Lotfolio x = four();
        is(22, () -> x.mean(0));
        x.buy(0, 50, 1, 21, 0);
        is(21, () -> x.mean(0));
        Check.thrown(at, () -> x.mean(1), ArithmeticException.class);
        arg(() -> x.mean(6), () -> x.mean(-1));
    }

    private static void promise25() {
        at = "25 sum";
        Lotfolio x = new Lotfolio();
        x.buy(0, 100, 10, 100, 3);
        x.pay(0, 100, 2);
        x.sell(0, 100, 5, 60, 0, 0);
        x.buy(0, 101, 2, 10, 0);
        x.split(0, 102, 1, 2, 9);
        long barred = 201 * 2 / 5;
        sums(x, -1003 + 20 + 300 - 20 + 4, 502 + 20 + barred, -201 + barred, 20, 4, barred, 1023, 501);
        arg(() -> x.sum(8), () -> x.sum(-1), () -> x.sum(MIN));
    }

    private static void promise26() {
        at = "26 gains";
        Lotfolio x = new Lotfolio();
        x.buy(0, 0, 10, 10, 0);
        x.sell(0, 365, 1, 15, 0, 0);
        x.sell(0, 366, 1, 16, 0, 0);
        x.sell(0, 367, 1, 17, 0, 0);
        x.sell(0, 9999, 1, 2, 0, 0);
        is(5, () -> x.gains(2000, false));
        is(6, () -> x.gains(2001, false));
        is(7, () -> x.gains(2001, true));
        is(-8, () -> x.gains(2027, true));
        is(0, () -> x.gains(2000, true));
        arg(() -> x.gains(1999, true), () -> x.gains(2028, false), () -> x.gains(MAX, false));
        at = "26 gains: what is barred later counts in the year of the sell";
        Lotfolio y = new Lotfolio();
        y.buy(0, 0, 10, 10, 0);
        y.sell(0, 360, 10, 8, 0, 0);
        y.buy(0, 380, 5, 8, 0);
        is(-10, () -> y.gains(2000, false));
        is(0, () -> y.gains(2001, false));
    }

    private static void promise27() {
        at = "27 income";
        Lotfolio x = lots(1);
        x.pay(0, 365, 2);
        x.again(0, 366, 3, 100);
        is(20, () -> x.income(2000));
        is(30, () -> x.income(2001));
        is(0, () -> x.income(2027));
        arg(() -> x.income(1999), () -> x.income(2028));
    }

    private static void promise28() {
        at = "28 unitsAt";
        Lotfolio x = lots(2);
        x.sell(0, 101, 5, 1, 0, 0);
        x.split(0, 200, 3, 1, 0);
        x.merge(0, 300, 1, 1, 1, 0);
        int[][] due = {{0, 99, 0}, {0, 100, 10}, {0, 101, 15}, {0, 199, 15}, {0, 200, 45}, {0, 299, 45},
            {0, 300, 0}, {1, 299, 0}, {1, 300, 45}, {1, 9999, 45}, {2, 9999, 0}, {0, 0, 0}};
        for (int[] d : due) {
            is(d[2], () -> x.unitsAt(d[0], d[1]));
        }
        arg(() -> x.unitsAt(6, 0), () -> x.unitsAt(-1, 0), () -> x.unitsAt(0, -1), () -> x.unitsAt(0, 10000));
    }

    private static void promise29() {
        at = "29 worth";
        Lotfolio x = lots(2);
        x.buy(3, 102, 5, 1, 0);
        x.price(0, 101, 7);
        x.price(3, 103, 100);
        is(0, () -> x.worth(99));
        none(() -> x.worth(100), () -> x.worth(102));
        is(140, () -> x.worth(101));
        is(640, () -> x.worth(103));
        x.sell(0, 104, 20, 1, 0, 0);
        is(500, () -> x.worth(104));
        is(640, () -> x.worth(103));
        arg(() -> x.worth(-1), () -> x.worth(10000));
    }

    private static void promise30() {
        at = "30 flows";
        Lotfolio x = new Lotfolio();
        state(() -> x.flows(9999));
        x.buy(0, 400, 1, 5, 0);
        state(() -> x.flows(399));
        none(() -> x.flows(400));
        x.price(0, 400, 3);
        is(1, () -> x.flows(400));
        is(1, () -> x.flows(x.day(2001, 12, 31)));
        is(2, () -> x.flows(x.day(2002, 1, 1)));
        is(12, () -> x.flows(x.day(2012, 12, 31)));
        state(() -> x.flows(x.day(2013, 1, 1)), () -> x.flows(9999));
        x.buy(1, 500, 1, 5, 0);
        is(1, () -> x.flows(499));
        none(() -> x.flows(500));
        state(() -> x.flows(9999));
        arg(() -> x.flows(-1), () -> x.flows(10000));
    }

    /** FLOWS -1000, 100, 0, 980 AT a DAY in 2003. */
    private static Lotfolio flowing() {
        Lotfolio x = new Lotfolio();
        x.price(0, 0, 100);
        x.buy(0, 10, 10, 95, 50);
        x.pay(0, 400, 10);
        x.sell(0, 1200, 1, 80, 0, 0);
        return x;
    }

    private static void promise31() {
        at = "31 flow";
        Lotfolio x = flowing();
        long[] due = {-1000, 100, 0, 980};
        for (int i = 0; i < 4; i++) {
            int flow = i;
            is(due[i], () -> x.flow(1300, flow));
        }
        is(0, () -> x.flow(1199, 2));
        is(1000, () -> x.flow(1199, 3));
        is(1000, () -> x.flow(1090, 2));
        is(0, () -> x.flow(10, 0));
        index(() -> x.flow(1300, 4), () -> x.flow(1300, -1), () -> x.flow(1090, 3));
        state(() -> x.flow(9, 0), () -> x.flow(9999, -1));
        arg(() -> x.flow(-1, 0), () -> x.flow(10000, -1));
        x.buy(1, 1301, 1, 1, 0);
        none(() -> x.flow(1301, 0), () -> x.flow(1301, -1));
    }

    private static void promise32() {
        at = "32 turnings";
        Lotfolio x = flowing();
        is(1, () -> x.turnings(1300));
        is(0, () -> x.turnings(10));
        Lotfolio y = new Lotfolio();
        y.price(0, 0, 0);
        y.buy(0, 0, 10, 10, 0);
        y.pay(0, 400, 50);
        y.buy(0, 1500, 10, 10, 0);
        y.sell(0, 2000, 10, 1, 0, 0);
        y.pay(0, 2400, 50);
        y.buy(0, 2600, 10, 10, 0);
        is(4, () -> y.turnings(3000));
        is(3, () -> y.turnings(2500));
        is(1, () -> y.turnings(1400));
        arg(() -> y.turnings(-1), () -> y.turnings(10000));
        state(() -> y.turnings(9999), () -> new Lotfolio().turnings(0));
        y.buy(1, 3000, 1, 1, 0);
        none(() -> y.turnings(3000));
    }

    private static void promise33() {
        at = "33 sign";
        Lotfolio x = flowing();
        is(1, () -> x.sign(1300, 0));
        is(1, () -> x.sign(1300, -99));
        is(1, () -> x.sign(1300, 2));
        is(-1, () -> x.sign(1300, 3));
        is(-1, () -> x.sign(1300, 100));
        is(0, () -> x.sign(10, 5));
        arg(() -> x.sign(1300, 101), () -> x.sign(1300, -100), () -> x.sign(-1, 0), () -> x.sign(9999, 101));
        state(() -> x.sign(9999, 0), () -> x.sign(9, 0));
        Lotfolio even = new Lotfolio();
        even.price(0, 0, 100);
        even.buy(0, 0, 10, 100, 0);
        is(0, () -> even.sign(366, 0));
        is(1, () -> even.sign(366, -1));
        is(-1, () -> even.sign(366, 1));
        twelve();
        even.price(0, 300, 110);
        is(0, () -> even.sign(366, 10));
        even.buy(1, 366, 1, 1, 0);
        none(() -> even.sign(366, 10));
    }

    /** Twelve FLOWS, of which the last one is 1.5 to the power of 11 times the first one. */
    private static void twelve() {
        Lotfolio x = new Lotfolio();
        x.price(0, 0, 59049);
        x.buy(0, 0, 30, 682, 20);
        x.buy(1, 0, 1, 0, 0);
        int day = x.day(2011, 1, 1);
        x.price(1, 0, 0);
        is(12, () -> x.flows(day));
        is(-20480, () -> x.flow(day, 0));
        is(1771470, () -> x.flow(day, 11));
        is(1, () -> x.turnings(day));
        is(1, () -> x.sign(day, 49));
        is(0, () -> x.sign(day, 50));
        is(0, () -> x.rest(day, 50));
        is(-1, () -> x.sign(day, 51));
        is(50, () -> x.inner(day, 0));
        is(-100, () -> x.inner(day, 1));
        x.price(1, 1, 1);
        is(1, () -> x.sign(day, 50));
        is(50, () -> x.inner(day, 0));
        x.price(1, 1, 0);
        x.correct(0, 2, 21);
        is(-1, () -> x.sign(day, 50));
        is(49, () -> x.inner(day, 0));
    }

    /** Twelve FLOWS as great as the document lets them be made in a few ORDERS. */
    private static Lotfolio great() {
        Lotfolio x = new Lotfolio();
        x.buy(0, 0, 9999, 99999, 0);
        x.split(0, 0, 10, 1, 0);
        x.split(0, 0, 10, 1, 0);
        x.pay(0, 0, 9999);
        for (int year = 1; year < 11; year++) {
            x.pay(0, 366 * year, 9999);
        }
        x.price(0, 0, 99999);
        return x;
    }

    private static void promise34() {
        at = "34 rest";
        Lotfolio x = flowing();
        long p = -1000L * 1331000 + 100L * 100 * 12100 + 980L * 1000000;
        is(Math.floorMod(p, 1000003L), () -> x.rest(1300, 10));
        is(Math.floorMod(-1000L * 1 + 100L * 100 + 980L * 1000000, 1000003L), () -> x.rest(1300, -99));
        is(0, () -> x.rest(10, 0));
        Lotfolio g = great();
        int day = g.day(2011, 12, 31);
        java.math.BigInteger sum = java.math.BigInteger.ZERO;
        for (int i = 0; i < 12; i++) {
            sum = sum.add(java.math.BigInteger.valueOf(g.flow(day, i))
                .multiply(java.math.BigInteger.valueOf(200).pow(11 - i))
                .multiply(java.math.BigInteger.valueOf(100).pow(i)));
        }
        is(sum.mod(java.math.BigInteger.valueOf(1000003)).intValue(), () -> g.rest(day, 100));
        is(1, () -> g.sign(day, 100));
        g.correct(3, 0, 0);
        is(-999890001L, () -> g.flow(day, 0));
        is(1, () -> g.sign(day, 100));
        arg(() -> x.rest(1300, 101), () -> x.rest(1300, -100), () -> x.rest(-1, 0));
        state(() -> x.rest(9999, 0), () -> x.rest(9, 0));
        x.buy(1, 1301, 1, 1, 0);
        none(() -> x.rest(1301, 0));
    }

    private static void promise35() {
        at = "35 inner";
        Lotfolio x = flowing();
        is(2, () -> x.inner(1300, 0));
        is(-100, () -> x.inner(1300, 1));
        is(-100, () -> x.inner(1300, MAX));
        is(-100, () -> x.inner(10, 0));
        index(() -> x.inner(1300, -1), () -> x.inner(1300, MIN));
        arg(() -> x.inner(-1, -1), () -> x.inner(10000, 0));
        state(() -> x.inner(9999, -1), () -> x.inner(9, 0));
        at = "35 inner: two rates, whole ones";
        Lotfolio y = new Lotfolio();
        y.price(0, 0, 0);
        y.buy(0, 0, 10, 100, 0);
        y.pay(0, 400, 230);
        y.buy(0, 800, 2, 660, 0);
        is(10, () -> y.inner(800, 0));
        is(20, () -> y.inner(800, 1));
        is(-100, () -> y.inner(800, 2));
        is(1, () -> y.sign(800, 15));
        y.correct(2, 2, 1);
        is(11, () -> y.inner(800, 0));
        is(18, () -> y.inner(800, 1));
        is(-100, () -> y.inner(800, 2));
        at = "35 inner: at both ends";
        Lotfolio z = new Lotfolio();
        z.price(0, 0, 200);
        z.buy(0, 0, 10, 100, 0);
        is(100, () -> z.inner(366, 0));
        z.price(0, 1, 201);
        is(-100, () -> z.inner(366, 0));
        z.price(0, 1, 1);
        is(-99, () -> z.inner(366, 0));
        is(-100, () -> z.inner(366, 1));
        z.buy(1, 366, 1, 1, 0);
        none(() -> z.inner(366, -1));
    }

    /** STOCKS 0 to 5 of the worths told, AT DAY 0. */
    private static Lotfolio worths(int... cents) {
        Lotfolio x = new Lotfolio();
        for (int s = 0; s < cents.length; s++) {
            x.price(s, 0, cents[s]);
            x.buy(s, 0, 1, 1, 0);
        }
        return x;
    }

    private static void trades(Lotfolio x, long... want) {
        is(want.length / 3, () -> x.fewest(0));
        for (int i = 0; i < want.length; i++) {
            int j = i;
            is(want[i], () -> x.trade(0, j / 3, j % 3));
        }
        index(() -> x.trade(0, want.length / 3, 0));
    }

    private static void promise36() {
        at = "36 band";
        Lotfolio x = worths(600, 400);
        x.band(0, 0, 0);
        trades(x, 0, 1, 600);
        x.band(0, 500, 500);
        trades(x, 0, 1, 100);
        x.band(0, 1000, 1000);
        trades(x, 1, 0, 400);
        x.band(0, 0, 1000);
        trades(x);
        arg(() -> band(x, -1, 0, 0), () -> band(x, 6, 0, 0), () -> band(x, 0, -1, 0), () -> band(x, 0, 0, 1001),
            () -> band(x, 0, 1001, 1001), () -> band(x, 0, 5, 4), () -> band(x, 0, MAX, MIN));
        trades(x);
    }

    private static long band(Lotfolio x, int stock, int least, int most) {
        x.band(stock, least, most);
        return 0;
    }

    private static void promise37() {
        at = "37 fewest";
        Lotfolio x = worths(600, 300, 100);
        is(0, () -> x.fewest(0));
        x.band(0, 333, 333);
        x.band(1, 333, 333);
        x.band(2, 333, 333);
        is(3, () -> x.fewest(0));
        x.band(3, 0, 0);
        x.band(4, 0, 0);
        is(3, () -> x.fewest(0));
        x.band(5, 0, 0);
        is(-1, () -> x.fewest(0));
        x.price(0, 0, 601);
        x.band(5, 0, 1000);
        is(-1, () -> x.fewest(0));
        at = "37 fewest: by one cent";
        Lotfolio cent = worths(600, 400);
        cent.band(0, 600, 600);
        is(0, () -> cent.fewest(0));
        cent.band(0, 601, 1000);
        is(1, () -> cent.fewest(0));
        cent.band(0, 0, 599);
        is(1, () -> cent.fewest(0));
        Lotfolio odd = worths(667, 334);
        odd.band(0, 667, 1000);
        is(1, () -> odd.fewest(0));
        odd.band(0, 0, 666);
        is(1, () -> odd.fewest(0));
        odd.band(0, 666, 667);
        is(0, () -> odd.fewest(0));
        at = "37 fewest: pairs";
        Lotfolio z = worths(100, 100, 100, 100, 300, 300);
        int[] per = {200, 0, 0, 200, 400, 200};
        for (int s = 0; s < 6; s++) {
            z.band(s, per[s], per[s]);
        }
        is(3, () -> z.fewest(0));
        x.buy(3, 0, 1, 1, 0);
        none(() -> x.fewest(0));
        arg(() -> x.fewest(-1), () -> x.fewest(10000));
    }

    private static void promise38() {
        at = "38 trade";
        Lotfolio z = worths(100, 100, 100, 100, 300, 300);
        int[] per = {200, 0, 0, 200, 400, 200};
        for (int s = 0; s < 6; s++) {
            z.band(s, per[s], per[s]);
        }
        trades(z, 1, 0, 100, 2, 3, 100, 5, 4, 100);
        at = "38 trade: several give";
        Lotfolio g = worths(100, 200, 300, 400);
        g.band(0, 0, 0);
        g.band(1, 0, 0);
        g.band(2, 0, 0);
        g.band(3, 1000, 1000);
        trades(g, 0, 3, 100, 1, 3, 200, 2, 3, 300);
        g.band(2, 450, 450);
        g.band(3, 550, 550);
        trades(g, 0, 2, 100, 1, 2, 50, 1, 3, 150);
        at = "38 trade: what is left over goes by numbers, up to the most";
        Lotfolio x = worths(0, 0, 500, 500);
        x.band(0, 100, 200);
        x.band(1, 100, 150);
        x.band(2, 100, 300);
        x.band(3, 0, 500);
        x.band(4, 0, 0);
        x.band(5, 0, 0);
        trades(x, 2, 0, 200, 3, 1, 150);
        x.band(3, 0, 700);
        trades(x, 2, 0, 200, 3, 1, 150);
        x.band(2, 0, 0);
        x.band(3, 650, 700);
        trades(x, 2, 0, 200, 2, 1, 150, 2, 3, 150);
        x.band(3, 651, 651);
        trades(x, 2, 0, 200, 2, 1, 149, 2, 3, 151);
        arg(() -> x.trade(-1, 0, 0), () -> x.trade(10000, 0, 0), () -> x.trade(0, 0, 3), () -> x.trade(0, 0, -1),
            () -> x.trade(0, -1, 3));
        index(() -> x.trade(0, -1, 0), () -> x.trade(0, 3, 0), () -> x.trade(0, MAX, 0), () -> x.trade(0, MIN, 2));
        x.band(3, 0, 0);
        is(-1, () -> x.fewest(0));
        index(() -> x.trade(0, 0, 0), () -> x.trade(0, -1, 0));
        x.buy(5, 0, 1, 1, 0);
        none(() -> x.trade(0, 0, 0), () -> x.trade(0, -1, 2));
        arg(() -> x.trade(0, 0, 3));
    }

    private static void promise39() {
        at = "39 digest";
        long empty = 7;
        for (int i = 0; i < 8 + 3 * 28; i++) {
            empty = empty * 257 % 65521;
        }
        Lotfolio x = new Lotfolio();
        is(empty, x::digest);
        x.price(0, 0, 5);
        x.band(0, 5, 6);
        is(empty, x::digest);
        x.buy(0, 400, 10, 100, 0);
        x.sell(0, 401, 4, 50, 0, 0);
        long[] all = {0, 400, 0, 10, 100, 0, 0, 0, 1, 401, 0, 4, 50, 0, 0, 0, 0, 4, 400, -200, 0, 0, 4,
            0, 400, 6, 600, 6, -800, 600, -200, 0, 0, 0, 1000, 400, 0, 0, 0, -200};
        long h = 7;
        for (long v : all) {
            h = (257 * h + Math.floorMod(v, 65521)) % 65521;
        }
        for (int i = 0; i < 2 + 26 * 3; i++) {
            h = 257 * h % 65521;
        }
        is(h, x::digest);
        is(h, x::digest);
    }

    private static void promise40() {
        at = "40 isSound";
        Lotfolio x = four();
        x.sell(0, 20, 15, 5, 6, 0);
        x.split(0, 21, 3, 7, 11);
        x.spin(0, 21, 1, 3, 7, 111);
        for (int part = 0; part < 4; part++) {
            int p = part;
            is(1, () -> x.isSound(p) ? 1 : 0);
            is(1, () -> new Lotfolio().isSound(p) ? 1 : 0);
        }
        arg(() -> x.isSound(4) ? 1 : 0, () -> x.isSound(-1) ? 1 : 0, () -> x.isSound(MIN) ? 1 : 0);
    }

    public static void main(String[] args) {
        promise1();
        promise2();
        promise3();
        promise4();
        promise5();
        promise6();
        promise7();
        promise8();
        promise9();
        promise10();
        promise11();
        promise12();
        promise13();
        promise14();
        promise15();
        promise16();
        promise17();
        promise18();
        promise19();
        promise20();
        promise21();
        promise22();
        promise23();
        promise24();
        promise25();
        promise26();
        promise27();
        promise28();
        promise29();
        promise30();
        promise31();
        promise32();
        promise33();
        promise34();
        promise35();
        promise36();
        promise37();
        promise38();
        promise39();
        promise40();
        Check.end();
    }
}
