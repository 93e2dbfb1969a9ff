import java.util.function.Supplier;

/** Boundary cases of BANDS, GROUPS and TRADES: promises 36 to 38, a test a sentence. */
final class BandEdgeTest extends Edges {

    /** STOCKS from 0 on of the worths told, AT DAY 0, one unit each; of 0 there is none. */
    private static Lotfolio worths(int... cents) {
        Lotfolio x = new Lotfolio();
        for (int stock = 0; stock < cents.length; stock++) {
            if (cents[stock] > 0) {
                x.price(stock, 0, cents[stock]);
                x.buy(stock, 0, 1, 1, 0);
            }
        }
        return x;
    }

    /** BANDS from STOCK 0 on, by pairs; the others are 0 to 1000 still. */
    private static Lotfolio banded(Lotfolio x, int... bands) {
        for (int i = 0; i < bands.length; i += 2) {
            x.band(i / 2, bands[i], bands[i + 1]);
        }
        return x;
    }

    /** BANDS of just one worth each, in thousandths. */
    private static Lotfolio narrow(Lotfolio x, int... bands) {
        for (int stock = 0; stock < bands.length; stock++) {
            x.band(stock, bands[stock], bands[stock]);
        }
        return x;
    }

    private static void trades(Lotfolio x, long... want) {
        is(want.length / 3, () -> x.fewest(0));
        for (int i = 0; i < want.length; i++) {
            int value = i;
            is(want[value], () -> x.trade(0, value / 3, value % 3));
        }
        index(() -> x.trade(0, want.length / 3, 0), () -> x.trade(0, -1, 0));
    }

    private static void noWay(Lotfolio x) {
        is(-1, () -> x.fewest(0));
        index(() -> x.trade(0, 0, 0), () -> x.trade(0, -1, 0));
    }

    private static long band(Lotfolio x, int stock, int least, int most) {
        x.band(stock, least, most);
        return 0;
    }

    // ---- 36

    private static void argumentsOfBand() {
        Supplier<Lotfolio> make = () -> banded(worths(600, 400), 100, 200, 800, 900);
        at = "36 band: stock is out of range";
        ends(ARGUMENT, make, 0, 5, (x, stock) -> band(x, stock, 0, 1000));
        at = "36 band: least is out of range";
        ends(ARGUMENT, make, 0, 1000, (x, least) -> band(x, 0, least, 1000));
        at = "36 band: most is out of range: least to 1000";
        ends(ARGUMENT, make, 0, 1000, (x, most) -> band(x, 0, 0, most));
        ends(ARGUMENT, make, 500, 1000, (x, most) -> band(x, 0, 500, most));
        ends(ARGUMENT, make, 1000, 1000, (x, most) -> band(x, 0, 1000, most));
        refused(ARGUMENT, make, x -> band(x, 0, 1001, 1001), x -> band(x, 0, -1, -1), x -> band(x, 6, 1, 0));
    }

    private static void aBandIsToldAnew() {
        at = "36 band: a BAND is told anew";
        Lotfolio x = banded(worths(600, 400), 0, 0);
        trades(x, 0, 1, 600);
        trades(banded(x, 1000, 1000), 1, 0, 400);
        trades(banded(x, 0, 1000));
        at = "36 band: of the last STOCK";
        x.band(5, 1, 1000);
        trades(x, 1, 5, 1);
        x.band(5, 1000, 1000);
        trades(x, 0, 5, 600, 1, 5, 400);
    }

    // ---- 37

    private static void fromLeastToMost() {
        at = "4 bands: worth just at the least, and at the most";
        trades(banded(worths(600, 400), 600, 1000));
        trades(banded(worths(600, 400), 0, 600));
        trades(narrow(worths(600, 400), 600, 400));
        at = "4 bands: worth one below the least, and one above the most";
        trades(banded(worths(599, 401), 600, 600), 1, 0, 1);
        trades(banded(worths(599, 401), 600, 1000), 1, 0, 401);
        trades(banded(worths(601, 399), 0, 600), 0, 1, 1);
        at = "4 bands: the least is rounded up";
        trades(banded(worths(334, 667), 334, 1000), 1, 0, 667);
        trades(banded(worths(335, 666), 334, 1000));
        trades(banded(worths(1, 1998), 1, 2), 1, 0, 2);
        trades(banded(worths(1, 1998), 1, 1000), 1, 0, 1998);
        trades(banded(worths(2, 1999), 1, 1000), 1, 0, 1999);
        trades(banded(worths(3, 1998), 1, 1000));
        at = "4 bands: the most is rounded down";
        trades(banded(worths(667, 334), 0, 667));
        trades(banded(worths(668, 333), 0, 667), 0, 1, 1);
        trades(banded(worths(2, 1997), 0, 1), 0, 1, 1);
        trades(banded(worths(1, 1998), 0, 1));
        at = "4 bands: no way at all, if one least is above its most";
        noWay(banded(worths(500, 501), 500, 500));
        noWay(banded(worths(1, 1), 1, 1));
        noWay(banded(worths(999), 0, 1000, 1, 1));
        trades(banded(worths(1000), 0, 1000, 1, 1), 0, 1, 1);
        trades(banded(worths(501, 500), 500, 501));
        trades(banded(worths(500, 501), 500, 501), 1, 0, 1);
    }

    private static void ifNoneDo() {
        at = "37 fewest: NONE, if none do: the leasts are more than all WORTH";
        noWay(banded(worths(600, 400), 501, 1000, 500, 1000));
        trades(banded(worths(600, 400), 500, 1000, 500, 1000), 0, 1, 100);
        noWay(banded(worths(600, 400), 1000, 1000, 1, 1000));
        at = "37 fewest: NONE, if none do: the mosts are less than all WORTH";
        noWay(banded(worths(600, 400), 0, 300, 0, 300, 0, 100, 0, 100, 0, 100, 0, 99));
        trades(banded(worths(600, 400), 0, 300, 0, 300, 0, 100, 0, 100, 0, 100, 0, 100),
            0, 2, 100, 0, 3, 100, 0, 4, 100, 1, 5, 100);
        noWay(narrow(worths(600, 400), 0, 0, 0, 0, 0, 0));
        at = "37 fewest: nothing is worth anything";
        trades(new Lotfolio());
        trades(narrow(new Lotfolio(), 1000, 1000, 1000, 0, 0, 0));
        Lotfolio none = lots(1);
        none.price(0, 0, 0);
        is(0, () -> narrow(none, 0, 1000, 1000, 1000, 1000, 1000).fewest(9999));
        at = "37 fewest: of one STOCK alone";
        trades(narrow(worths(7), 1000, 0, 0, 0, 0, 0));
        trades(narrow(worths(7), 0, 1000), 0, 1, 7);
    }

    private static void zeroToFiveTrades() {
        at = "37 fewest: none needed";
        trades(worths(1, 2, 3, 4, 5, 6));
        trades(narrow(worths(100, 200, 300, 100, 200, 100), 100, 200, 300, 100, 200, 100));
        at = "37 fewest: five";
        trades(narrow(worths(1000), 100, 200, 300, 100, 200, 100),
            0, 1, 200, 0, 2, 300, 0, 3, 100, 0, 4, 200, 0, 5, 100);
        trades(narrow(worths(100, 200, 300, 100, 200, 100), 0, 0, 0, 0, 0, 1000),
            0, 5, 100, 1, 5, 200, 2, 5, 300, 3, 5, 100, 4, 5, 200);
        at = "37 fewest: three by three pairs, though in order it would be five";
        trades(narrow(worths(100, 150, 350, 0, 200, 200), 0, 0, 0, 350, 300, 350),
            0, 4, 100, 1, 5, 150, 2, 3, 350);
        at = "37 fewest: AT a DAY";
        Lotfolio x = worths(600, 400);
        x.price(0, 1, 400);
        x.band(0, 500, 500);
        is(1, () -> x.fewest(0));
        is(0, () -> x.fewest(1));
        x.sell(0, 2, 1, 1, 0, 0);
        is(1, () -> x.fewest(2));
        is(200, () -> x.trade(2, 0, 2));
    }

    private static void whatFewestRefuses() {
        at = "37 fewest: it is no DAY";
        ends(ARGUMENT, () -> worths(600, 400), 0, 9999, Lotfolio::fewest);
        refused(ARGUMENT, () -> lots(1), x -> x.fewest(-1), x -> x.fewest(10000));
        at = "37 fewest: a PRICE is not told";
        refused(PRICE, () -> lots(1), x -> x.fewest(100), x -> x.fewest(9999));
        is(0, () -> lots(1).fewest(99));
        at = "37 fewest: a PRICE is not told, though there is no way at all";
        refused(PRICE, () -> narrow(lots(1), 0, 0, 0, 0, 0, 0), x -> x.fewest(100));
        at = "37 fewest: asking changes nothing";
        asked(() -> narrow(worths(600, 400), 500, 500), x -> x.fewest(0), x -> x.trade(0, 0, 2));
    }

    // ---- 38

    private static void theLeastNumberOfAGroup() {
        at = "4 bands: of several ways the one whose group of STOCK 0 has the least number";
        trades(narrow(worths(100, 100, 100, 100, 300, 300), 200, 0, 0, 200, 400, 200),
            1, 0, 100, 2, 3, 100, 5, 4, 100);
        trades(narrow(worths(200, 0, 0, 200, 400, 200), 100, 100, 100, 100, 300, 300),
            0, 1, 100, 3, 2, 100, 4, 5, 100);
        trades(narrow(worths(100, 200, 200, 200, 200, 100), 200, 200, 200, 200, 100, 100), 4, 0, 100);
        at = "4 bands: then that of the least STOCK that is not in it";
        trades(narrow(worths(100, 0, 0, 300, 300, 300), 100, 300, 300, 300, 0, 0), 4, 1, 300, 5, 2, 300);
        trades(narrow(worths(100, 300, 300, 300, 0, 0), 100, 0, 0, 300, 300, 300), 1, 4, 300, 2, 5, 300);
        at = "4 bands: a STOCK that is in its BAND may help others, if it is alone in no way";
        trades(banded(worths(500, 500), 0, 500, 0, 500, 0, 0, 0, 0, 0, 0, 0, 0));
        trades(banded(worths(500, 500), 0, 400, 0, 600, 0, 0, 0, 0, 0, 0, 0, 0), 0, 1, 100);
        trades(banded(worths(500, 500), 0, 300, 0, 600, 100, 1000, 0, 0, 0, 0, 0, 0), 0, 2, 200);
        at = "4 bands: as many groups as can be go ahead of the least number";
        trades(narrow(worths(300, 100, 200, 200, 200, 0), 0, 200, 400, 200, 200, 0), 0, 1, 100, 0, 2, 200);
    }

    private static void firstAtItsLeast() {
        at = "4 bands: each STOCK is first wanted at its least, then, by numbers, what is left over is added";
        trades(among(100, 1000, 100, 1000, 0, 0), 2, 0, 900, 2, 1, 100);
        trades(among(100, 900, 100, 1000, 0, 0), 2, 0, 900, 2, 1, 100);
        trades(among(100, 899, 100, 1000, 0, 1), 2, 0, 899, 2, 1, 101);
        trades(among(100, 100, 100, 1000, 0, 1000), 2, 0, 100, 2, 1, 900);
        trades(among(100, 300, 100, 200, 500, 900), 2, 0, 300, 2, 1, 200);
        trades(among(100, 300, 100, 200, 501, 900), 2, 0, 300, 2, 1, 199);
        trades(among(100, 300, 100, 200, 800, 900), 2, 0, 100, 2, 1, 100);
        at = "4 bands: what is left over is added to those ahead, so it is others that need help";
        trades(banded(worths(0, 0, 1000), 0, 1000, 0, 1000, 0, 0), 2, 3, 1000);
        trades(banded(worths(0, 0, 1000), 0, 300, 0, 200, 0, 900, 0, 0, 0, 0, 0, 0), 2, 1, 200);
        at = "4 bands: up to its most";
        trades(among(100, 300, 100, 200, 0, 500), 2, 0, 300, 2, 1, 200);
        trades(among(100, 300, 100, 200, 0, 600), 2, 0, 300, 2, 1, 200);
        trades(among(100, 300, 100, 200, 600, 700), 2, 0, 300, 2, 1, 100);
        noWay(among(100, 300, 100, 200, 0, 499));
    }

    /** All of 1000 is in STOCK 2; these are the BANDS of 0, 1 and 2, and the others may have nothing. */
    private static Lotfolio among(int... bands) {
        Lotfolio x = narrow(worths(0, 0, 1000), 0, 0, 0, 0, 0, 0);
        return banded(x, bands);
    }

    private static void theFirstGivesToTheFirst() {
        at = "4 bands: the first one above gives to the first one below";
        trades(narrow(worths(100, 200, 300, 400), 0, 0, 0, 1000), 0, 3, 100, 1, 3, 200, 2, 3, 300);
        trades(narrow(worths(100, 200, 300, 400), 300, 350, 350, 0), 3, 0, 200, 3, 1, 150, 3, 2, 50);
        at = "4 bands: as much as both need at the least";
        trades(narrow(worths(300, 0, 700), 0, 1000, 0), 0, 1, 300, 2, 1, 700);
        trades(narrow(worths(500, 400, 100), 100, 250, 650), 0, 2, 400, 1, 2, 150);
        trades(narrow(worths(500, 400, 50, 50), 100, 250, 300, 350), 0, 2, 250, 0, 3, 150, 1, 3, 150);
        at = "4 bands: group by group, by their least STOCKS";
        trades(narrow(worths(100, 200, 50, 250, 400), 200, 100, 250, 50, 400), 1, 0, 100, 3, 2, 200);
        trades(narrow(worths(100, 250, 200, 50, 400), 200, 50, 100, 250, 400), 2, 0, 100, 1, 3, 200);
    }

    private static void whatTradeRefuses() {
        Supplier<Lotfolio> five = () -> narrow(worths(1000), 100, 200, 300, 100, 200, 100);
        at = "38 trade: there are not so many";
        ends(PLACE, five, 0, 4, (x, i) -> x.trade(0, i, 2));
        refused(PLACE, Lotfolio::new, x -> x.trade(0, 0, 0));
        refused(PLACE, () -> narrow(worths(1000), 0, 0, 0, 0, 0, 0), x -> x.trade(0, 0, 0), x -> x.trade(0, -1, 0));
        at = "38 trade: it is no DAY";
        ends(ARGUMENT, five, 0, 9999, (x, day) -> x.trade(day, 0, 0));
        at = "38 trade: what is out of range";
        ends(ARGUMENT, five, 0, 2, (x, what) -> x.trade(0, 0, what));
        at = "38 trade: a PRICE is not told";
        refused(PRICE, () -> lots(1), x -> x.trade(100, 0, 0), x -> x.trade(9999, 0, 2));
        at = "38 trade: IllegalArgumentException ahead of NoSuchElementException, that of IndexOutOfBoundsException";
        refused(ARGUMENT, () -> lots(1), x -> x.trade(100, 0, 3), x -> x.trade(100, -1, -1), x -> x.trade(-1, 0, 0));
        refused(ARGUMENT, five, x -> x.trade(0, 5, 3), x -> x.trade(10000, 5, 0));
        refused(PRICE, () -> lots(1), x -> x.trade(100, -1, 0), x -> x.trade(100, MAX, 0));
    }

    public static void main(String[] args) {
        argumentsOfBand();
        aBandIsToldAnew();
        fromLeastToMost();
        ifNoneDo();
        zeroToFiveTrades();
        whatFewestRefuses();
        theLeastNumberOfAGroup();
        firstAtItsLeast();
        theFirstGivesToTheFirst();
        whatTradeRefuses();
        Check.end();
    }
}
