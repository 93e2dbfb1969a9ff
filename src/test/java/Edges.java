import java.util.function.Supplier;

/** What the tests of boundary cases share: refused calls that change nothing, ends of ranges, ORDERS by KINDS. */
abstract class Edges extends Due {
    static final Class<IllegalArgumentException> ARGUMENT = IllegalArgumentException.class;
    static final Class<IllegalStateException> STATE = IllegalStateException.class;
    static final Class<IndexOutOfBoundsException> PLACE = IndexOutOfBoundsException.class;
    static final Class<java.util.NoSuchElementException> PRICE = java.util.NoSuchElementException.class;

    static final int BUY = 0;
    static final int SELL = 1;
    static final int SPLIT = 2;
    static final int PAY = 3;
    static final int AGAIN = 4;
    static final int SPIN = 5;
    static final int MERGER = 6;
    static final int KINDS = 7;

    /** Of each KIND the least and the greatest value of each of its NUMBERS, and plain ones. */
    static final int[][] LEAST = {{1, 0, 0}, {1, 0, 0, 0}, {1, 1, 0}, {0}, {0, 1}, {0, 1, 1, 0}, {0, 1, 1, 0}};
    static final int[][] MOST = {{9999, 99999, 9999}, {99999, 99999, 6, 999}, {10, 10, 99999}, {9999},
        {9999, 99999}, {5, 10, 10, 1000}, {5, 10, 10, 99999}};
    static final int[][] PLAIN = {{1, 1, 0}, {1, 1, 0, 0}, {1, 1, 0}, {1}, {1, 99999}, {1, 1, 1, 0}, {1, 1, 1, 0}};

    /** A call that can be made on any object. */
    interface On {
        long of(Lotfolio x);
    }

    interface OnValue {
        long of(Lotfolio x, int value);
    }

    /** Each call, on an object of its own, throws just that, and leaves all as it is without the call. */
    static void refused(Class<? extends RuntimeException> want, Supplier<Lotfolio> make, On... calls) {
        String due = Snapshot.of(make.get());
        for (int i = 0; i < calls.length; i++) {
            On call = calls[i];
            Lotfolio x = make.get();
            Check.thrown(at + ", refused call " + i, () -> call.of(x), want);
            Check.alike(at + ", changed by refused call " + i, Snapshot.of(x), due);
        }
    }

    /** The least and the greatest value are taken; the ones next beyond, and the farthest, are refused. */
    static void ends(Class<? extends RuntimeException> want, Supplier<Lotfolio> make, int least, int most,
        OnValue call) {
        for (int value : new int[] {least, most}) {
            Lotfolio x = make.get();
            String came = Check.outcome(() -> call.of(x, value));
            Check.same(at + " takes " + value, came.startsWith("throws") ? came : "", "");
        }
        refused(want, make, x -> call.of(x, least - 1), x -> call.of(x, most + 1),
            x -> call.of(x, MIN), x -> call.of(x, MAX));
    }

    /** Each asking call answers, and leaves all as it is without it. */
    static void asked(Supplier<Lotfolio> make, On... calls) {
        String due = Snapshot.of(make.get());
        for (int i = 0; i < calls.length; i++) {
            On call = calls[i];
            Lotfolio x = make.get();
            String came = Check.outcome(() -> call.of(x));
            Check.same(at + ", answer to call " + i, came.startsWith("throws") ? came : "", "");
            Check.alike(at + ", changed by call " + i, Snapshot.of(x), due);
        }
    }

    static int tell(Lotfolio x, int kind, int stock, int day, int... n) {
        switch (kind) {
            case BUY:
                return x.buy(stock, day, n[0], n[1], n[2]);
            case SELL:
                return x.sell(stock, day, n[0], n[1], n[2], n[3]);
            case SPLIT:
                return x.split(stock, day, n[0], n[1], n[2]);
            case PAY:
                return x.pay(stock, day, n[0]);
            case AGAIN:
                return x.again(stock, day, n[0], n[1]);
            case SPIN:
                return x.spin(stock, day, n[0], n[1], n[2], n[3]);
            default:
                return x.merge(stock, day, n[0], n[1], n[2], n[3]);
        }
    }

    /** The plain NUMBERS of a KIND, one of them put in another one's place. */
    static int[] with(int kind, int which, int value) {
        int[] numbers = PLAIN[kind].clone();
        numbers[which] = value;
        return numbers;
    }

    /** A STOCK with the LOTS 0 of 99990 units and 1 of 9, by three ORDERS of one DAY: each plain ORDER can be done. */
    static Lotfolio rich(int stock, int day) {
        Lotfolio x = new Lotfolio();
        x.buy(stock, day, 9999, 1, 0);
        x.split(stock, day, 10, 1, 0);
        x.buy(stock, day, 9, 1, 0);
        return x;
    }

    /** The same, with so many ORDERS: the further ones are PAYS of nothing. */
    static Lotfolio rich(int stock, int day, int orders) {
        Lotfolio x = rich(stock, day);
        while (x.orders() < orders) {
            x.pay(stock, day, 0);
        }
        return x;
    }

    /** STOCK 0 with so many units, from 100 on, in few LOTS of DAY 0. */
    static Lotfolio holding(int units) {
        Lotfolio x = new Lotfolio();
        int hundreds = Math.min(9999, units / 100);
        x.buy(0, 0, hundreds, 1, 0);
        x.split(0, 0, 10, 1, 0);
        x.split(0, 0, 10, 1, 0);
        int left = units - 100 * hundreds;
        if (left > 0) {
            x.buy(0, 0, left, 1, 0);
        }
        return x;
    }

    /** Adds so many LOTS of one unit, each for one cent. */
    static Lotfolio lotted(Lotfolio x, int stock, int day, int lots) {
        for (int i = 0; i < lots; i++) {
            x.buy(stock, day, 1, 1, 0);
        }
        return x;
    }
}
