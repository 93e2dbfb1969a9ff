import java.util.ArrayList;
import java.util.List;
import java.util.Random;

/**
 * A random run of calls, by a fixed seed: ORDERS are told, refused, put right, struck and put back. It is kept,
 * so that it can be made anew: an object is good for 512 calls, and each question may be asked of a new one.
 */
final class Run {
    /** A call that changes an object, or is refused. */
    interface Change {
        void on(Lotfolio x);
    }

    /** How often each of them was met, in all runs, so that no test is empty. */
    static int told;
    static int refused;
    static int putRight;
    static int struck;
    static int putBack;

    private static final int[] CENTS = {0, 1, 7, 10, 33, 50, 99, 100, 150, 333};
    final Random r;
    private final int stocks;
    private final int pace;
    private final int most;
    /** PRICES and BANDS: they are no ORDERS. */
    private final List<Change> asides = new ArrayList<>();
    private final List<Change> calls = new ArrayList<>();

    Run(long seed) {
        r = new Random(seed);
        stocks = 1 + r.nextInt(6);
        pace = new int[] {2, 8, 25, 120, 500}[r.nextInt(5)];
        most = r.nextInt(3) == 0 ? 4 : 40;
        for (int s = 0; s < 6; s++) {
            int stock = s;
            int cents = s == 5 ? 0 : 1 + to(200);
            aside(x -> x.price(stock, 0, cents));
        }
        if (to(4) == 0) {
            startWithTwoRates();
        }
    }

    /** FLOWS of -1000, 2300 and -1320, that the RATES 10 and 20 make nothing; random ones seldom have two. */
    private void startWithTwoRates() {
        change(x -> x.buy(5, 0, 10, 100, 0));
        change(x -> x.pay(5, 400, 230));
        change(x -> x.buy(5, 800, 2, 660, 0));
    }

    int to(int most) {
        return r.nextInt(most + 1);
    }

    int calls() {
        return calls.size();
    }

    Lotfolio anew() {
        Lotfolio x = new Lotfolio();
        for (Change call : calls) {
            make(call, x);
        }
        return x;
    }

    /** An object to which only the ORDERS in the LOG are told, and what is no ORDER. */
    Lotfolio ofTheLogAlone() {
        Lotfolio from = anew();
        Lotfolio other = anew();
        Lotfolio x = new Lotfolio();
        asides.forEach(call -> make(call, x));
        for (int o = 0; o < from.orders(); o++) {
            Lotfolio of = o < 30 ? from : other;
            int[] n = {of.order(o, 3), of.order(o, 4), of.order(o, 5), of.order(o, 6)};
            Edges.tell(x, of.order(o, 0), of.order(o, 2), of.order(o, 1), n);
        }
        return x;
    }

    int callsOfTheLogAlone() {
        return asides.size() + 60;
    }

    /** Whether the call is done: a refused one throws. */
    static boolean make(Change call, Lotfolio x) {
        return !Check.outcome(() -> {
            call.on(x);
            return 0;
        }).startsWith("throws");
    }

    private void aside(Change call) {
        asides.add(call);
        calls.add(call);
    }

    private boolean change(Change call) {
        boolean done = make(call, anew());
        calls.add(call);
        return done;
    }

    /** One call more, or two: answers whether all of them were refused. */
    boolean step() {
        boolean done;
        switch (to(19)) {
            case 0: case 1:
                done = wrong();
                break;
            case 2: case 3:
                done = right();
                break;
            case 4:
                done = strike(to(anew().orders()));
                break;
            case 5:
                done = rightAndBack();
                break;
            case 6:
                done = strikeAndTell();
                break;
            case 7:
                done = price();
                break;
            default:
                done = order();
                break;
        }
        refused += done ? 0 : 1;
        return !done;
    }

    private boolean price() {
        int s = to(5);
        int day = to(4000);
        int cents = s == 5 ? 0 : to(200);
        aside(x -> x.price(s, day, cents));
        return true;
    }

    int lastDay() {
        Lotfolio x = anew();
        return x.orders() == 0 ? 0 : x.order(x.orders() - 1, 1);
    }

    private int cents() {
        return r.nextInt(3) == 0 ? to(400) : CENTS[to(CENTS.length - 1)];
    }

    private int[] numbers(int kind, int stock) {
        switch (kind) {
            case Edges.BUY:
                return new int[] {1 + to(most), cents(), to(9)};
            case Edges.SELL:
                return new int[] {1 + to(r.nextBoolean() ? most / 4 : most), cents(), to(6), to(15)};
            case Edges.SPLIT:
                return new int[] {1 + to(to(9)), 1 + to(9), cents()};
            case Edges.PAY:
                return new int[] {to(90)};
            case Edges.AGAIN:
                return new int[] {to(90), 1 + cents()};
            case Edges.SPIN:
                return new int[] {(stock + 1 + to(4)) % 6, 1 + to(9), 1 + to(9), to(1000)};
            default:
                return new int[] {(stock + 1 + to(4)) % 6, 1 + to(to(9)), 1 + to(9), cents()};
        }
    }

    private boolean order() {
        int[] kinds = {0, 0, 0, 0, 0, 0, 1, 1, 1, 1, 1, 2, 3, 4, 4, 5, 6};
        int kind = kinds[to(kinds.length - 1)];
        int s = to(stocks - 1);
        int day = Math.min(9999, lastDay() + to(pace) * to(1));
        int months = 1 + to(3);
        boolean isPlan = kind == Edges.BUY && to(9) == 0;
        int[] n = numbers(kind, s);
        boolean done = change(isPlan ? x -> x.plan(s, day, months, 2000) : x -> Edges.tell(x, kind, s, day, n));
        told += done ? 1 : 0;
        return done;
    }

    /** A call that can not be done, whatever stands in the LOG. */
    private boolean wrong() {
        int day = lastDay();
        int s = to(5);
        int many = anew().orders();
        Change[] all = {
            x -> x.buy(s, day - 1, 1, 1, 0), x -> x.buy(s, day, 0, 1, 0), x -> x.buy(6, day, 1, 1, 0),
            x -> x.sell(s, day, 99999, 1, 0, 0), x -> x.sell(s, day, 1, 1, 4, 999), x -> x.sell(s, day, 1, 1, 7, 0),
            x -> x.split(s, day, 11, 1, 0), x -> x.spin(s, day, s, 1, 1, 0), x -> x.merge(s, day, -1, 1, 1, 0),
            x -> x.pay(s, 10000, 1), x -> x.again(s, day, 1, 0), x -> x.plan(s, 9999, 2, 100),
            x -> x.correct(many, 0, 1), x -> x.correct(0, 4, 1), x -> x.correct(0, 0, -1), x -> x.strike(many),
            x -> x.strike(-1), x -> x.price(s, day, -1), x -> x.band(s, 2, 1)};
        boolean done = change(all[to(all.length - 1)]);
        Check.holds("a call that can not be done is refused", !done);
        return done;
    }

    private boolean right() {
        int o = to(anew().orders());
        int which = to(3);
        int value = to(20);
        boolean done = change(x -> x.correct(o, which, value));
        putRight += done ? 1 : 0;
        return done;
    }

    private boolean strike(int o) {
        boolean done = change(x -> x.strike(o));
        struck += done ? 1 : 0;
        return done;
    }

    private boolean rightAndBack() {
        Lotfolio before = anew();
        int o = to(Math.max(0, before.orders() - 1));
        int which = to(3);
        int value = to(20);
        if (!change(x -> x.correct(o, which, value))) {
            return false;
        }
        int was = before.order(o, 3 + which);
        Check.holds("an ORDER that is put right can be put back", change(x -> x.correct(o, which, was)));
        putRight++;
        putBack++;
        return true;
    }

    private boolean strikeAndTell() {
        Lotfolio before = anew();
        int o = before.orders() - 1;
        if (!strike(o)) {
            return false;
        }
        int[] n = {before.order(o, 3), before.order(o, 4), before.order(o, 5), before.order(o, 6)};
        int kind = before.order(o, 0);
        int day = before.order(o, 1);
        int s = before.order(o, 2);
        Check.holds("the last ORDER that is struck can be told again", change(x -> Edges.tell(x, kind, s, day, n)));
        putBack++;
        return true;
    }
}
