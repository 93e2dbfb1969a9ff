import java.time.DateTimeException;
import java.util.NoSuchElementException;

/** What the tests of promises share: due answers, due exceptions, and small objects to ask. */
abstract class Due {
    static final int MIN = Integer.MIN_VALUE;
    static final int MAX = Integer.MAX_VALUE;
    static String at = "";

    static void is(long want, Check.Call call) {
        Check.due(at, call, want);
    }

    static void arg(Check.Call... calls) {
        for (Check.Call call : calls) {
            Check.thrown(at, call, IllegalArgumentException.class);
        }
    }

    static void state(Check.Call... calls) {
        for (Check.Call call : calls) {
            Check.thrown(at, call, IllegalStateException.class);
        }
    }

    static void index(Check.Call... calls) {
        for (Check.Call call : calls) {
            Check.thrown(at, call, IndexOutOfBoundsException.class);
        }
    }

    static void none(Check.Call... calls) {
        for (Check.Call call : calls) {
            Check.thrown(at, call, NoSuchElementException.class);
        }
    }

    static void noDate(Check.Call... calls) {
        for (Check.Call call : calls) {
            Check.thrown(at, call, DateTimeException.class);
        }
    }

    /** All five values of a LOT. */
    static void lot(Lotfolio x, int stock, int place, long... want) {
        for (int what = 0; what < want.length; what++) {
            int w = what;
            Check.due(at + " lot " + stock + " " + place + " by " + what, () -> x.lot(stock, place, w), want[what]);
        }
    }

    /** All seven values of a PIECE. */
    static void piece(Lotfolio x, int order, int place, long... want) {
        for (int what = 0; what < want.length; what++) {
            int w = what;
            Check.due(at + " piece " + order + " " + place + " by " + what,
                () -> x.piece(order, place, w), want[what]);
        }
    }

    static void sums(Lotfolio x, long... want) {
        for (int what = 0; what < want.length; what++) {
            int w = what;
            Check.due(at + " sum " + what, () -> x.sum(w), want[what]);
        }
        Check.holds(at + " sound", x.isSound(0));
    }

    static Lotfolio full(int orders) {
        Lotfolio x = new Lotfolio();
        for (int i = 0; i < orders; i++) {
            x.pay(0, 100, 1);
        }
        return x;
    }

    /** STOCK 0 with so many LOTS of 10 units, each with a COST of 100. */
    static Lotfolio lots(int count) {
        Lotfolio x = new Lotfolio();
        for (int i = 0; i < count; i++) {
            x.buy(0, 100 + i, 10, 10, 0);
        }
        return x;
    }
}
