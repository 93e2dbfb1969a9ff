import java.math.BigInteger;
import java.util.function.Supplier;

/** Boundary cases of worth, FLOWS and RATES: promises 28 to 35, a test a sentence. */
final class WorthEdgeTest extends Edges {

    /** 10 units of STOCK 0 from DAY 400, in 2001, on, and 5 of STOCK 1 from DAY 500 on, at PRICES from these DAYS on. */
    private static Lotfolio held() {
        Lotfolio x = new Lotfolio();
        x.buy(0, 400, 10, 7, 0);
        x.buy(1, 500, 5, 1, 0);
        x.price(0, 400, 100);
        x.price(1, 500, 3);
        return x;
    }

    /** The same, but the PRICE of STOCK 1 is told a DAY late. */
    private static Lotfolio unpriced() {
        Lotfolio x = new Lotfolio();
        x.buy(0, 400, 10, 7, 0);
        x.buy(1, 500, 5, 1, 0);
        x.price(0, 400, 100);
        x.price(1, 501, 3);
        return x;
    }

    private static void unitsBehindAllOrdersOfTheDay() {
        at = "28 unitsAt: those behind all ORDERS of DAYS up to it";
        Lotfolio x = held();
        x.sell(0, 500, 4, 1, 0, 0);
        x.split(0, 500, 2, 1, 0);
        is(0, () -> x.unitsAt(0, 399));
        is(10, () -> x.unitsAt(0, 400));
        is(10, () -> x.unitsAt(0, 499));
        is(12, () -> x.unitsAt(0, 500));
        is(12, () -> x.unitsAt(0, 9999));
        is(0, () -> x.unitsAt(1, 499));
        is(0, () -> x.unitsAt(5, 9999));
        is(0, () -> x.unitsAt(0, 0));
        at = "28 unitsAt: of the first DAY and of the last one";
        Lotfolio y = new Lotfolio();
        is(0, () -> y.unitsAt(0, 0));
        y.buy(0, 0, 1, 1, 0);
        y.buy(0, 9999, 1, 1, 0);
        is(1, () -> y.unitsAt(0, 0));
        is(1, () -> y.unitsAt(0, 9998));
        is(2, () -> y.unitsAt(0, 9999));
        at = "28 unitsAt: of a STOCK without LOTS, and of one with 10";
        for (int i = 0; i < 12; i++) {
            int count = Math.min(i, 10);
            int day = 99 + i;
            is(10 * count, () -> lots(10).unitsAt(0, day));
            is(0, () -> lots(10).unitsAt(1, day));
        }
        at = "28 unitsAt: by 60 ORDERS";
        is(99999, () -> rich(3, 100, 60).unitsAt(3, 100));
        at = "28 unitsAt: an argument is out of range";
        ends(ARGUMENT, WorthEdgeTest::held, 0, 5, (z, stock) -> z.unitsAt(stock, 500));
        ends(ARGUMENT, WorthEdgeTest::held, 0, 9999, (z, day) -> z.unitsAt(0, day));
        at = "28 unitsAt: asking changes nothing";
        asked(WorthEdgeTest::held, z -> z.unitsAt(0, 450));
    }

    private static void worthOfThoseThatHaveUnits() {
        at = "29 worth: UNITS AT it times the PRICE AT it";
        Lotfolio x = held();
        is(0, () -> x.worth(399));
        is(1000, () -> x.worth(400));
        is(1000, () -> x.worth(499));
        is(1015, () -> x.worth(500));
        is(1015, () -> x.worth(9999));
        is(0, () -> new Lotfolio().worth(0));
        at = "29 worth: a PRICE is not told";
        refused(PRICE, WorthEdgeTest::unpriced, y -> y.worth(500));
        is(1015, () -> unpriced().worth(501));
        refused(PRICE, () -> lots(1), y -> y.worth(100), y -> y.worth(9999));
        at = "29 worth: a PRICE that is not told of a STOCK that has no units then";
        is(1000, () -> unpriced().worth(499));
        Lotfolio sold = unpriced();
        sold.sell(1, 500, 5, 1, 0, 0);
        is(1000, () -> sold.worth(500));
        at = "29 worth: of ten LOTS, and of 60 ORDERS";
        Lotfolio ten = lots(10);
        ten.price(0, 0, 3);
        is(300, () -> ten.worth(9999));
        is(30, () -> ten.worth(100));
        Lotfolio full = rich(3, 100, 60);
        full.price(3, 0, 2);
        is(2 * 99999, () -> full.worth(100));
        is(0, () -> full.worth(99));
        at = "29 worth: a PRICE of 0";
        Lotfolio none = lots(1);
        none.price(0, 100, 0);
        is(0, () -> none.worth(100));
        at = "29 worth: of the greatest PRICES";
        Lotfolio great = new Lotfolio();
        for (int stock = 0; stock < 6; stock++) {
            great.buy(stock, 0, 1000, 1, 0);
            for (int i = 0; i < 3; i++) {
                great.split(stock, 0, 10, 1, 0);
            }
            great.price(stock, 0, 99999);
        }
        is(6L * 1000000 * 99999, () -> great.worth(0));
        at = "29 worth: it is no DAY";
        ends(ARGUMENT, WorthEdgeTest::held, 0, 9999, Lotfolio::worth);
        refused(ARGUMENT, () -> lots(1), y -> y.worth(-1), y -> y.worth(10000));
        at = "29 worth: asking changes nothing";
        asked(WorthEdgeTest::held, y -> y.worth(500));
    }

    private interface OfDay {
        long of(Lotfolio x, int day);
    }

    /** What all six calls that ask of FLOWS throw, ahead of one another. */
    private static void whatAllOfThemRefuse(String name, OfDay call) {
        at = name + ": it is no DAY";
        refused(ARGUMENT, WorthEdgeTest::held, x -> call.of(x, -1), x -> call.of(x, 10000), x -> call.of(x, MIN),
            x -> call.of(x, MAX));
        refused(ARGUMENT, Lotfolio::new, x -> call.of(x, -1), x -> call.of(x, 10000));
        at = name + ": there is no ORDER of a DAY up to it";
        refused(STATE, WorthEdgeTest::held, x -> call.of(x, 399), x -> call.of(x, 0));
        refused(STATE, Lotfolio::new, x -> call.of(x, 0), x -> call.of(x, 9999));
        at = name + ": there would be more than 12";
        refused(STATE, WorthEdgeTest::held, x -> call.of(x, x.day(2013, 1, 1)), x -> call.of(x, 9999));
        at = name + ": a PRICE is not told";
        refused(PRICE, WorthEdgeTest::unpriced, x -> call.of(x, 500));
        at = name + ": IllegalStateException ahead of NoSuchElementException";
        refused(STATE, () -> lots(1), x -> call.of(x, 9999));
        at = name + ": answers at the first DAY, and with 12 FLOWS";
        asked(WorthEdgeTest::held, x -> call.of(x, 400), x -> call.of(x, x.day(2012, 12, 31)));
    }

    private static void howManyFlows() {
        at = "30 flows: one for each YEAR from that of the first ORDER to that of the DAY";
        Lotfolio x = held();
        is(1, () -> x.flows(400));
        is(1, () -> x.flows(x.day(2001, 12, 31)));
        is(2, () -> x.flows(x.day(2002, 1, 1)));
        is(11, () -> x.flows(x.day(2011, 12, 31)));
        is(12, () -> x.flows(x.day(2012, 1, 1)));
        is(12, () -> x.flows(x.day(2012, 12, 31)));
        at = "30 flows: from the first DAY, and to the last one";
        Lotfolio y = new Lotfolio();
        y.pay(0, 0, 0);
        is(1, () -> y.flows(0));
        is(1, () -> y.flows(365));
        is(12, () -> y.flows(y.day(2011, 12, 31)));
        state(() -> y.flows(y.day(2012, 1, 1)));
        Lotfolio z = new Lotfolio();
        z.pay(0, z.day(2016, 12, 31), 0);
        is(12, () -> z.flows(9999));
        z.strike(0);
        z.pay(0, z.day(2015, 12, 31), 0);
        state(() -> z.flows(9999));
        at = "30 flows: of 60 ORDERS";
        is(1, () -> full(60).flows(100));
    }

    private static void whichFlowThereIs() {
        at = "31 flow: by how much CASH became more by the ORDERS of that YEAR, up to the DAY";
        Lotfolio x = held();
        x.pay(0, 729, 3);
        x.pay(0, 731, 4);
        x.pay(0, 733, 5);
        is(-70, () -> x.flow(400, 0) - 1000);
        is(-75, () -> x.flow(728, 0) - 1015);
        is(-45, () -> x.flow(729, 0) - 1015);
        is(-45, () -> x.flow(731, 0));
        is(40, () -> x.flow(731, 1) - 1015);
        is(40, () -> x.flow(732, 1) - 1015);
        is(90, () -> x.flow(733, 1) - 1015);
        at = "31 flow: the last of a YEAR and the first of the YEAR behind";
        Lotfolio y = new Lotfolio();
        y.buy(0, 365, 1, 10, 0);
        y.pay(0, 365, 1);
        y.pay(0, 366, 2);
        y.price(0, 0, 0);
        is(-9, () -> y.flow(366, 0));
        is(2, () -> y.flow(366, 1));
        is(0, () -> y.flow(y.day(2011, 12, 31), 11));
        at = "31 flow: for the last one the WORTH AT the DAY more, for none else";
        y.price(0, 366, 100);
        is(-9, () -> y.flow(365, 0));
        is(-9, () -> y.flow(366, 0));
        is(102, () -> y.flow(366, 1));
        is(2, () -> y.flow(y.day(2011, 12, 31), 1));
        is(0, () -> y.flow(y.day(2011, 12, 31), 2));
        is(100, () -> y.flow(y.day(2011, 12, 31), 11));
        at = "31 flow: there is no such FLOW";
        ends(PLACE, WorthEdgeTest::held, 0, 0, (z, i) -> z.flow(400, i));
        ends(PLACE, WorthEdgeTest::held, 0, 11, (z, i) -> z.flow(z.day(2012, 12, 31), i));
        at = "31 flow: the others ahead of IndexOutOfBoundsException";
        refused(ARGUMENT, WorthEdgeTest::held, z -> z.flow(-1, -1), z -> z.flow(10000, 12));
        refused(STATE, WorthEdgeTest::held, z -> z.flow(399, -1), z -> z.flow(9999, 12));
        refused(PRICE, WorthEdgeTest::unpriced, z -> z.flow(500, -1), z -> z.flow(500, 1));
    }

    /** FLOWS as told, of the YEARS from 2000 on, AT a DAY of the last YEAR: PAYS and BUYS of a STOCK worth nothing. */
    private static Lotfolio flowing(int... flows) {
        Lotfolio x = new Lotfolio();
        x.price(0, 0, 0);
        x.buy(0, 0, 1, 0, 0);
        for (int i = 0; i < flows.length; i++) {
            int day = 366 * i + 1;
            if (flows[i] < 0) {
                x.buy(1, day, 1, -flows[i], 0);
                x.sell(1, day, 1, 0, 0, 0);
            } else {
                x.pay(0, day, flows[i]);
            }
        }
        return x;
    }

    private static int last(int... flows) {
        return 366 * (flows.length - 1) + 1;
    }

    private static void turn(int want, int... flows) {
        Lotfolio x = flowing(flows);
        is(flows.length, () -> x.flows(last(flows)));
        for (int i = 0; i < flows.length; i++) {
            int flow = i;
            is(flows[flow], () -> x.flow(last(flows), flow));
        }
        is(want, () -> x.turnings(last(flows)));
    }

    private static void howOftenTheyTurn() {
        at = "32 turnings: one FLOW, and none but 0";
        turn(0, 0);
        turn(0, 5);
        turn(0, -5);
        turn(0, 0, 0, 0);
        at = "32 turnings: as often as one has another sign than the one ahead";
        turn(1, -5, 5);
        turn(1, 5, -5);
        turn(0, 5, 1);
        turn(0, -5, -1);
        turn(2, -5, 1, -5);
        turn(11, -1, 1, -1, 1, -1, 1, -1, 1, -1, 1, -1, 1);
        at = "32 turnings: FLOWS that are 0 aside";
        turn(1, -5, 0, 5);
        turn(0, -5, 0, -5);
        turn(0, 0, -5, 0);
        turn(1, 0, 5, 0, 0, -5, 0);
        turn(2, 5, 0, -5, -5, 0, 0, 5);
        turn(1, -5, 0, 0, 0, 0, 0, 0, 0, 0, 0, 0, 5);
    }

    /** sign() and rest() of the FLOWS by each RATE against the document's sum, with great whole numbers. */
    private static void bySum(int... flows) {
        for (int rate : new int[] {-99, -98, -50, -1, 0, 1, 50, 99, 100}) {
            BigInteger sum = BigInteger.ZERO;
            for (int i = 0; i < flows.length; i++) {
                sum = sum.add(BigInteger.valueOf(flows[i]).multiply(BigInteger.valueOf(100).pow(i))
                    .multiply(BigInteger.valueOf(100 + rate).pow(flows.length - 1 - i)));
            }
            int k = rate;
            BigInteger all = sum;
            Lotfolio x = flowing(flows);
            is(all.signum(), () -> x.sign(last(flows), k));
            is(all.mod(BigInteger.valueOf(1000003)).intValue(), () -> x.rest(last(flows), k));
        }
    }

    private static void worthByARate() {
        at = "33 sign, 34 rest: of one FLOW, and of none but 0";
        bySum(7);
        bySum(-7);
        bySum(0);
        bySum(0, 0, 0, 0, 0, 0, 0, 0, 0, 0, 0, 0);
        at = "33 sign, 34 rest: of 2 to 12 FLOWS";
        bySum(-1, 1);
        bySum(-1, 2);
        bySum(-2, 1);
        bySum(-100, 1);
        bySum(-9999, 100);
        bySum(0, 0, 5);
        bySum(-5, 0, 0);
        bySum(1, -3, 2);
        bySum(-1, 0, 0, 4);
        bySum(3, -5, 7, -9, 11);
        bySum(-99999, 1, 1, 1, 1, 1);
        bySum(-1, 0, 0, 0, 0, 0, 0, 0, 0, 0, 0, 2048);
        bySum(-1, 0, 0, 0, 0, 0, 0, 0, 0, 0, 0, 2047);
        bySum(-1, 0, 0, 0, 0, 0, 0, 0, 0, 0, 0, 2049);
        bySum(-99999, 9999, 9999, 9999, 9999, 9999, 9999, 9999, 9999, 9999, 9999, 9999);
        bySum(-99999, -99999, -99999, -99999, -99999, -99999, -99999, -99999, -99999, -99999, -99999, -99999);
        at = "34 rest: modulo 1000003";
        is(1000002, () -> flowing(-1).rest(1, 0));
        is(0, () -> flowing(0).rest(1, 0));
        is(9999, () -> flowing(9999).rest(1, 100));
        Lotfolio x = new Lotfolio();
        x.price(0, 0, 1);
        x.price(1, 0, 1);
        x.buy(0, 0, 1000, 0, 0);
        x.split(0, 0, 10, 1, 0);
        x.split(0, 0, 10, 1, 0);
        x.split(0, 0, 10, 1, 0);
        x.buy(1, 0, 2, 0, 0);
        is(1000002, () -> x.rest(0, 0));
        x.buy(1, 0, 1, 0, 0);
        is(0, () -> x.rest(0, 0));
        is(1, () -> x.sign(0, 0));
        x.buy(1, 0, 1, 0, 0);
        is(1, () -> x.rest(0, 0));
        for (boolean rest : new boolean[] {false, true}) {
            at = (rest ? "34 rest" : "33 sign") + ": rate is out of range";
            OnValue ask = (y, rate) -> rest ? y.rest(500, rate) : y.sign(500, rate);
            ends(ARGUMENT, WorthEdgeTest::held, -99, 100, ask);
            at = (rest ? "34 rest" : "33 sign") + ": IllegalArgumentException ahead of the others";
            refused(ARGUMENT, Lotfolio::new, y -> ask.of(y, 101), y -> ask.of(y, -100));
            refused(ARGUMENT, WorthEdgeTest::unpriced, y -> ask.of(y, 101), y -> ask.of(y, MIN));
        }
    }

    /** All TOLD RATES, in turn, and none behind them. */
    private static void inner(int[] flows, int... want) {
        Lotfolio x = flowing(flows);
        for (int i = 0; i < want.length; i++) {
            int place = i;
            is(want[place], () -> x.inner(last(flows), place));
        }
        is(-100, () -> x.inner(last(flows), want.length));
        is(-100, () -> x.inner(last(flows), want.length + 1));
        is(-100, () -> x.inner(last(flows), MAX));
    }

    private static int[] f(int... flows) {
        return flows;
    }

    private static void toldRates() {
        at = "35 inner: none, if all FLOWS are 0";
        inner(f(0));
        inner(f(0, 0, 0));
        at = "35 inner: of one FLOW";
        inner(f(5));
        inner(f(-5));
        at = "35 inner: whose worth is 0";
        inner(f(-10, 10), 0);
        inner(f(-100, 101), 1);
        inner(f(-100, 99), -1);
        inner(f(-10, 0, 0, 0, 0, 0, 0, 0, 0, 0, 0, 10), 0);
        at = "35 inner: whose worth is 0, the least RATE and the greatest one";
        inner(f(-10, 20), 100);
        inner(f(-100, 1), -99);
        inner(f(-1, 0, 0, 0, 0, 0, 0, 0, 0, 0, 0, 2048), 100);
        at = "35 inner: of 100 none but 0";
        inner(f(-100, 201));
        inner(f(-1, 0, 0, 0, 0, 0, 0, 0, 0, 0, 0, 2049));
        at = "35 inner: below the least RATE none";
        inner(f(-1000, 1));
        inner(f(-101, 1));
        at = "35 inner: whose worth and that of the next RATE are one above and one below 0";
        inner(f(-1000, 1005), 0);
        inner(f(-1000, 995), -1);
        inner(f(-1000, 1995), 99);
        inner(f(-1000, 15), -99);
        inner(f(-1, 0, 0, 0, 0, 0, 0, 0, 0, 0, 0, 2047), 99);
        at = "35 inner: the one ahead of a RATE whose worth is 0 is none";
        inner(f(-100, 105), 5);
        at = "35 inner: several, rising";
        inner(f(-1000, 2300, -1320), 10, 20);
        inner(f(1000, -2300, 1320), 10, 20);
        inner(f(-1000, 2300, -1319), 9, 20);
        inner(f(-1000, 2010, -1010), 0, 1);
        inner(f(-1000, 2300, -1322), 12, 17);
        inner(f(-1000, 2310, -1334), 15, 16);
        inner(f(-80000, 2400, -16), -99, -98);
        at = "35 inner: twice between a RATE and the next one is none";
        inner(f(-80000, 2400, -17));
        at = "35 inner: a RATE that touches 0 and does not cross it";
        inner(f(-1000, 2200, -1210), 10);
        inner(f(-1000, 2199, -1210));
        at = "35 inner: FLOWS that TURN, and no RATE";
        inner(f(-1000, 100, -1000));
        at = "35 inner: i is below 0";
        refused(PLACE, WorthEdgeTest::held, x -> x.inner(500, -1), x -> x.inner(500, MIN));
        asked(WorthEdgeTest::held, x -> x.inner(500, 0), x -> x.inner(500, MAX));
        at = "35 inner: the others ahead of IndexOutOfBoundsException";
        refused(ARGUMENT, WorthEdgeTest::held, x -> x.inner(-1, -1), x -> x.inner(10000, -1));
        refused(STATE, WorthEdgeTest::held, x -> x.inner(399, -1), x -> x.inner(9999, -1));
        refused(PRICE, WorthEdgeTest::unpriced, x -> x.inner(500, -1));
    }

    /** FLOWS of some 10 to the power of 10, below 0 ahead and above 0 behind, or the other way round. */
    private static void greatFlows() {
        at = "33 sign, 34 rest: of the greatest FLOWS";
        Supplier<Lotfolio> great = () -> {
            Lotfolio x = new Lotfolio();
            x.buy(0, 0, 1000, 99999, 0);
            for (int i = 0; i < 3; i++) {
                x.split(0, 0, 10, 1, 0);
            }
            for (int year = 1; year < 12; year++) {
                for (int i = 0; i < 4; i++) {
                    x.pay(0, 366 * year, 9999);
                }
            }
            x.price(0, 0, 99999);
            return x;
        };
        Lotfolio x = great.get();
        int day = x.day(2011, 12, 31);
        is(-99999000, () -> x.flow(day, 0));
        is(39996000000L, () -> x.flow(day, 1));
        is(39996000000L + 99999000000L, () -> x.flow(day, 11));
        for (int rate : new int[] {-99, 0, 100}) {
            BigInteger sum = BigInteger.ZERO;
            for (int i = 0; i < 12; i++) {
                sum = sum.add(BigInteger.valueOf(x.flow(day, i)).multiply(BigInteger.valueOf(100).pow(i))
                    .multiply(BigInteger.valueOf(100 + rate).pow(11 - i)));
            }
            BigInteger all = sum;
            is(all.signum(), () -> x.sign(day, rate));
            is(all.mod(BigInteger.valueOf(1000003)).intValue(), () -> x.rest(day, rate));
        }
    }

    public static void main(String[] args) {
        unitsBehindAllOrdersOfTheDay();
        worthOfThoseThatHaveUnits();
        whatAllOfThemRefuse("30 flows", Lotfolio::flows);
        whatAllOfThemRefuse("31 flow", (x, day) -> x.flow(day, 0));
        whatAllOfThemRefuse("32 turnings", Lotfolio::turnings);
        whatAllOfThemRefuse("33 sign", (x, day) -> x.sign(day, 0));
        whatAllOfThemRefuse("34 rest", (x, day) -> x.rest(day, 0));
        whatAllOfThemRefuse("35 inner", (x, day) -> x.inner(day, 0));
        howManyFlows();
        whichFlowThereIs();
        howOftenTheyTurn();
        worthByARate();
        toldRates();
        greatFlows();
        Check.end();
    }
}
