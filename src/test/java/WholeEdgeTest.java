import java.util.function.Supplier;

/** Boundary cases of what asks of all: promises 39 and 40, and "WHAT ALWAYS HOLDS" at the edges. */
final class WholeEdgeTest extends Edges {
    private static final int PRIME = 65521;
    private static long h;

    private static void mix(long value) {
        h = (257 * h + Math.floorMod(value, (long) PRIME)) % PRIME;
    }

    /** D of all, by what objects that are alike answer: one for each ORDER, as 512 calls might not do. */
    private static long byAsking(Supplier<Lotfolio> make) {
        h = 7;
        Lotfolio x = make.get();
        int orders = x.orders();
        for (int order = 0; order < orders; order++) {
            Lotfolio y = make.get();
            for (int what = 0; what < 8; what++) {
                mix(y.order(order, what));
            }
            int pieces = y.pieces(order);
            for (int place = 0; place < pieces; place++) {
                for (int what = 0; what < 7; what++) {
                    mix(y.piece(order, place, what));
                }
            }
        }
        for (int stock = 0; stock < 6; stock++) {
            for (int place = 0; place < x.lots(stock); place++) {
                for (int what = 0; what < 5; what++) {
                    mix(x.lot(stock, place, what));
                }
            }
        }
        for (int what = 0; what < 8; what++) {
            mix(x.sum(what));
        }
        for (int year = 2000; year < 2028; year++) {
            mix(x.gains(year, false));
            mix(x.gains(year, true));
            mix(x.income(year));
        }
        return h;
    }

    private static void digests(Supplier<Lotfolio> make) {
        long due = byAsking(make);
        is(due, () -> make.get().digest());
    }

    /** SELLS of two PIECES in the first YEAR and in the last one, with a LOSS, LONG and not, and what is LOST. */
    private static Lotfolio varied() {
        Lotfolio x = new Lotfolio();
        x.buy(0, 0, 9999, 99999, 9999);
        x.buy(0, 0, 2, 65521, 0);
        x.sell(0, 1, 9998, 1, 0, 0);
        x.buy(0, 2, 9, 65522, 0);
        x.again(0, 9000, 7, 3);
        x.buy(5, 9998, 1, 5, 0);
        x.split(5, 9999, 1, 2, 9);
        x.sell(0, 9999, 3, 99999, 6, 0);
        return x;
    }

    private static void digestOfAll() {
        at = "39 digest: without ORDERS";
        digests(Lotfolio::new);
        at = "39 digest: PRICES, BANDS and changed() are not in it";
        Lotfolio x = new Lotfolio();
        int none = x.digest();
        x.price(0, 0, 5);
        x.band(0, 1, 2);
        x.buy(0, 0, 1, 1, 0);
        x.sell(0, 0, 1, 5, 0, 0);
        x.strike(1);
        x.strike(0);
        is(none, x::digest);
        is(0, () -> x.changed(2000, true));
        at = "39 digest: numbers below 0, and above the modulus";
        digests(WholeEdgeTest::varied);
        at = "39 digest: numbers of the modulus, one less and one more";
        for (int cents = 65519; cents <= 65523; cents++) {
            int price = cents;
            digests(() -> {
                Lotfolio y = new Lotfolio();
                y.buy(0, 0, 1, price, 0);
                return y;
            });
        }
        at = "39 digest: of ten LOTS, and ten PIECES";
        digests(() -> lots(10));
        digests(() -> {
            Lotfolio y = lots(10);
            y.sell(0, 300, 95, 7, 6, 0);
            return y;
        });
        at = "39 digest: of 60 ORDERS";
        Lotfolio full = full(60);
        Lotfolio struck = full(60);
        struck.strike(59);
        Check.holds(at, full.digest() != struck.digest());
        struck.pay(0, 100, 1);
        is(full.digest(), struck::digest);
        at = "39 digest: asking changes nothing";
        asked(WholeEdgeTest::varied, Lotfolio::digest);
    }

    /** 60 ORDERS, 250 PIECES: ten LOTS are spun off, and sold, 25 times. */
    private static Lotfolio manyPieces() {
        Lotfolio x = lots(10);
        for (int i = 0; i < 25; i++) {
            x.spin(0, 110 + 31 * i, 1, 1, 1, 10);
            x.sell(1, 110 + 31 * i, 100, i % 2, 1, 0);
        }
        return x;
    }

    private static void manyOfAll() {
        at = "21 pieces, 22 piece: of 60 ORDERS, with 250 PIECES";
        is(60, () -> manyPieces().orders());
        for (int i = 0; i < 25; i++) {
            Lotfolio x = manyPieces();
            int sell = 11 + 2 * i;
            is(0, () -> x.pieces(sell - 1));
            is(10, () -> x.pieces(sell));
            for (int place = 0; place < 10; place++) {
                int p = place;
                is(10 * (sell - 9) / 2 + 9 - p, () -> x.piece(sell, p, 0));
                is(10, () -> x.piece(sell, p, 1));
            }
        }
        Lotfolio x = manyPieces();
        piece(x, 59, 9, 250, 10, 0, 0, 1, 0, 0);
        piece(x, 11, 0, 19, 10, 1, -1, 0, 0, 0);
        piece(x, 13, 0, 29, 10, 0, 10, 0, 0, 0);
        index(() -> x.piece(59, 10, 0), () -> x.piece(60, 0, 0), () -> x.pieces(60));
        at = "39 digest, 40 isSound: of 60 ORDERS, with 250 PIECES";
        digests(WholeEdgeTest::manyPieces);
        is(1, () -> sound(manyPieces(), 0));
        at = "7 sell, 14 correct: TOLD by the number of a LOT that came late";
        Lotfolio late = manyPieces();
        state(() -> late.correct(59, 2, 4));
        is(0, () -> late.correct(59, 3, 255));
        is(259, () -> late.piece(59, 0, 0));
        is(1, () -> late.correct(59, 2, 4));
        is(255, () -> late.piece(59, 0, 0));
        state(() -> late.correct(59, 3, 249), () -> late.correct(59, 3, 260));
        Lotfolio told = manyPieces();
        is(59, () -> told.strike(59));
        is(59, () -> told.sell(1, 9999, 31, 5, 4, 255));
        int[] numbers = {255, 250, 251, 252};
        for (int place = 0; place < 4; place++) {
            int p = place;
            is(numbers[p], () -> told.piece(59, p, 0));
            is(p == 3 ? 1 : 10, () -> told.piece(59, p, 1));
        }
        refused(STATE, () -> {
            Lotfolio y = manyPieces();
            y.strike(59);
            return y;
        }, y -> y.sell(1, 9999, 1, 5, 4, 249), y -> y.sell(1, 9999, 1, 5, 4, 260), y -> y.given(1, 1, 4, 249));
    }

    private static long sound(Lotfolio x, int part) {
        return x.isSound(part) ? 1 : 0;
    }

    private static void soundAlways() {
        at = "40 isSound: there is no such part";
        ends(ARGUMENT, WholeEdgeTest::varied, 0, 3, WholeEdgeTest::sound);
        ends(ARGUMENT, Lotfolio::new, 0, 3, WholeEdgeTest::sound);
        at = "40 isSound: always so";
        for (int i = 0; i < 4; i++) {
            int part = i;
            is(1, () -> sound(new Lotfolio(), part));
            is(1, () -> sound(varied(), part));
            is(1, () -> sound(lots(10), part));
            is(1, () -> sound(full(60), part));
            is(1, () -> sound(rich(3, 100, 60), part));
        }
        at = "40 isSound: with what is BARRED in part, and wholly";
        for (int units = 1; units <= 4; units++) {
            Lotfolio x = new Lotfolio();
            x.buy(0, 0, 3, 7, 0);
            x.sell(0, 1, 3, 2, 0, 0);
            x.buy(0, 31, units, 1, 0);
            is(1, () -> sound(x, 0));
            is(1, () -> sound(x, 3));
            is(Math.min(15, 5 * units), () -> x.sum(5));
        }
        at = "40 isSound: asking changes nothing";
        asked(WholeEdgeTest::varied, x -> sound(x, 0), x -> sound(x, 1), x -> sound(x, 2), x -> sound(x, 3));
    }

    private static void whatAlwaysHolds() {
        at = "(1) to the last cent, through all SPLITS, SPINS and MERGERS, and whatever is BARRED";
        Lotfolio x = varied();
        is(x.sum(1), () -> x.sum(2) + x.sum(3) + x.sum(4) - x.sum(0));
        at = "(2) LEAST gives up no less COST";
        for (int units = 1; units <= 55; units++) {
            Lotfolio y = new Lotfolio();
            int[] costs = {10, 30, 30, 80, 50, 180, 70, 320, 90, 500};
            for (int i = 0; i < 10; i++) {
                y.buy(0, i, i + 1, 0, costs[i]);
            }
            long most = y.given(0, units, 6, 0);
            for (int custom = 0; custom < 4; custom++) {
                Check.holds(at, most >= y.given(0, units, custom, 0));
            }
            for (int lot = 0; lot < 10; lot++) {
                Check.holds(at, most >= y.given(0, units, 4, lot));
            }
        }
        at = "(6) put right, and put back, changes nothing but changed()";
        for (int order = 0; order < 8; order++) {
            Lotfolio y = varied();
            int was = y.order(order, 3);
            if (!Check.outcome(puttingRight(y, order)).startsWith("throws")) {
                y.correct(order, 0, was);
            }
            y.correct(0, 1, 99999);
            Lotfolio same = varied();
            same.correct(0, 1, 99999);
            Check.alike(at, Snapshot.of(y), Snapshot.of(same));
        }
        at = "to ask changes nothing: changed()";
        asked(WholeEdgeTest::varied, y -> y.changed(2000, false), y -> y.changed(2027, true));
    }

    private static Check.Call puttingRight(Lotfolio x, int order) {
        return () -> x.correct(order, 0, 3);
    }

    private static void none() {
        at = "NONE is -1";
        is(-1, () -> Lotfolio.NONE);
    }

    public static void main(String[] args) {
        digestOfAll();
        manyOfAll();
        soundAlways();
        whatAlwaysHolds();
        none();
        Check.end();
    }
}
