import java.math.BigInteger;
import java.util.Arrays;
import java.util.Set;
import java.util.TreeSet;
import java.util.function.Supplier;

/** "WHAT ALWAYS HOLDS", sentence by sentence, over runs of calls: after each call each sentence is looked at. */
final class AlwaysTest {
    private static final int STEPS = 75;
    private static final int[] CUSTOMS = {0, 1, 2, 3, 4};
    /** What fewest() told, how many RATES were told, and what was BARRED or LOST: no test may be empty. */
    private static final Set<Integer> tradesSeen = new TreeSet<>();
    private static final Set<Integer> ratesSeen = new TreeSet<>();
    private static int barredSeen;
    private static int lostSeen;
    private static int dearerSeen;
    private static int splitsSeen;
    private static int backSeen;
    private static int toldAgainSeen;

    private final Run run;

    private AlwaysTest(Run run) {
        this.run = run;
    }

    // ---- (1)

    /** GAINS, INCOME and PARTS, less CASH, are the COST of all LOTS; each as the other calls tell it, too. */
    private void sumsAreTheCostOfAllLots() {
        Lotfolio x = run.anew();
        Check.due("(1)", () -> x.sum(2) + x.sum(3) + x.sum(4) - x.sum(0), x.sum(1));
        long gains = 0;
        long incomes = 0;
        for (int year = 2000; year < 2028; year++) {
            gains += x.gains(year, false) + x.gains(year, true);
            incomes += x.income(year);
        }
        long cost = 0;
        for (int s = 0; s < 6; s++) {
            for (int i = 0; i < x.lots(s); i++) {
                cost += x.lot(s, i, 3);
            }
        }
        Check.due("(1) by LOTS and YEARS", () -> x.sum(4) - x.sum(0), cost - gains - incomes);
        for (int part = 0; part < 4; part++) {
            Check.holds("(1) sound", x.isSound(part));
        }
        barredSeen += x.sum(5) > 0 ? 1 : 0;
        lostSeen += x.sum(6) + x.sum(5) - x.sum(7) > x.sum(1) ? 1 : 0;
    }

    // ---- (2)

    private void leastGivesUpNoLess() {
        Lotfolio x = run.anew();
        for (int s = 0; s < 6; s++) {
            int units = x.unitsAt(s, 9999);
            if (units == 0) {
                continue;
            }
            int n = 1 + run.to(Math.min(99998, units - 1));
            long most = x.given(s, n, 6, 0);
            for (int i = 0; i < x.lots(s); i++) {
                int lot = (int) x.lot(s, i, 0);
                Check.holds("(2) TOLD", most >= x.given(s, n, 4, lot));
            }
            int first = (int) x.lot(s, 0, 0);
            for (int custom : CUSTOMS) {
                long other = x.given(s, n, custom, first);
                Check.holds("(2) custom " + custom, most >= other);
                dearerSeen += most > other ? 1 : 0;
            }
            isSoldSo(s, n, 6, 0, most);
            isSoldSo(s, n, 5, 0, x.given(s, n, 5, 0));
        }
    }

    /** What is given up is what a SELL gives up. */
    private void isSoldSo(int s, int n, int custom, int lot, long given) {
        Lotfolio x = run.anew();
        if (x.orders() < 60) {
            long before = x.sum(7);
            x.sell(s, run.lastDay(), n, 50, custom, lot);
            Check.due("(2) sold by " + custom, () -> x.sum(7) - before, given);
        }
    }

    // ---- (3)

    private static String lots(Lotfolio x, boolean withFree) {
        StringBuilder all = new StringBuilder();
        for (int s = 0; s < 6; s++) {
            int count = x.lots(s);
            all.append(" stock ").append(s).append(':');
            for (int i = 0; i < count; i++) {
                for (int what = 0; what < (withFree ? 5 : 4); what++) {
                    all.append(x.lot(s, i, what)).append(' ');
                }
            }
        }
        return all.toString();
    }

    private void splitThereAndBackLeavesLots() {
        int s = run.to(5);
        int a = 1 + run.to(9);
        int day = run.lastDay();
        String before = lots(run.anew(), false);
        Lotfolio x = run.anew();
        String sums = x.sum(0) + " " + x.sum(1) + " " + x.sum(2) + " " + x.sum(4);
        if (x.orders() < 59 && x.unitsAt(s, 9999) * (long) a <= 1000000) {
            x.split(s, day, a, 1, 33);
            x.split(s, day, 1, a, 77);
            Check.alike("(3)", lots(x, false), before);
            Check.same("(3) sums", x.sum(0) + " " + x.sum(1) + " " + x.sum(2) + " " + x.sum(4), sums);
            splitsSeen += x.lots(s) > 1 && a > 1 ? 1 : 0;
        }
    }

    // ---- (4)

    private static BigInteger worthByRate(long[] flows, int rate) {
        BigInteger all = BigInteger.ZERO;
        for (int i = 0; i < flows.length; i++) {
            BigInteger byRate = BigInteger.valueOf(100 + rate).pow(flows.length - 1 - i);
            all = all.add(BigInteger.valueOf(flows[i]).multiply(byRate).multiply(BigInteger.valueOf(100).pow(i)));
        }
        return all;
    }

    private static int turnings(long[] flows) {
        long[] some = Arrays.stream(flows).filter(f -> f != 0).toArray();
        int turns = 0;
        for (int i = 1; i < some.length; i++) {
            turns += some[i] < 0 != some[i - 1] < 0 ? 1 : 0;
        }
        return turns;
    }

    private void toldRatesAreBetweenSigns(int day) {
        Lotfolio x = run.anew();
        if (Check.outcome(() -> x.flows(day)).startsWith("throws")) {
            return;
        }
        long[] flows = new long[x.flows(day)];
        for (int i = 0; i < flows.length; i++) {
            flows[i] = x.flow(day, i);
        }
        Check.due("(4) turnings", () -> x.turnings(day), turnings(flows));
        int told = 0;
        int before = -100;
        for (int rate = x.inner(day, 0); rate != -100 && told < 13; rate = x.inner(day, told)) {
            int here = worthByRate(flows, rate).signum();
            Check.holds("(4) rising", rate > before);
            Check.holds("(4) nothing, or of another sign",
                here == 0 || rate < 100 && here * worthByRate(flows, rate + 1).signum() < 0);
            before = rate;
            told++;
        }
        Check.holds("(4) no more than FLOWS turn", told <= turnings(flows));
        ratesSeen.add(told);
    }

    // ---- (5)

    private static long[] worths(Lotfolio x, int day) {
        long[] worths = new long[6];
        for (int s = 0; s < 6; s++) {
            int units = x.unitsAt(s, day);
            worths[s] = units == 0 ? 0 : (long) units * x.priceAt(s, day);
        }
        return worths;
    }

    /** The most groups into which the STOCKS fall, of all ways: STOCK by STOCK one joins a group, or makes one. */
    private static int mostGroups(int stock, int made, long[][] groups, long[][] stocks) {
        if (stock == 6) {
            for (int g = 0; g < made; g++) {
                if (groups[g][0] > groups[g][1] || groups[g][1] > groups[g][2]) {
                    return -1;
                }
            }
            return made;
        }
        int most = -1;
        for (int g = 0; g <= made; g++) {
            add(groups[g], stocks[stock], 1);
            most = Math.max(most, mostGroups(stock + 1, g == made ? made + 1 : made, groups, stocks));
            add(groups[g], stocks[stock], -1);
        }
        return most;
    }

    private static void add(long[] group, long[] stock, int times) {
        for (int i = 0; i < 3; i++) {
            group[i] += times * stock[i];
        }
    }

    /** Random BANDS: narrow ones about the weights of other STOCKS, so that many ways into groups can be. */
    private int[][] bands(long[] worths, long all) {
        int[][] bands = new int[6][2];
        int wide = new int[] {0, 1, 30, 400}[run.to(3)];
        int shift = run.to(5);
        for (int s = 0; s < 6; s++) {
            int about = (int) (all == 0 ? run.to(1000) : 1000 * worths[(s + shift) % 6] / all);
            bands[s][0] = Math.max(0, about - run.to(wide));
            bands[s][1] = Math.min(1000, about + run.to(wide) + (wide > 0 ? 1 : 0));
        }
        return bands;
    }

    /** So many TRADES leave at least 6 less so many groups of STOCKS, none of which pays to another one. */
    private void noFewerTradesDo(int day) {
        Lotfolio x = run.anew();
        if (Check.outcome(() -> x.worth(day)).startsWith("throws")) {
            return;
        }
        long all = x.worth(day);
        long[] worths = worths(x, day);
        int[][] bands = bands(worths, all);
        long[][] stocks = new long[6][];
        boolean isAny = true;
        for (int s = 0; s < 6; s++) {
            x.band(s, bands[s][0], bands[s][1]);
            long least = -Math.floorDiv(-bands[s][0] * all, 1000L);
            stocks[s] = new long[] {least, worths[s], bands[s][1] * all / 1000};
            isAny &= stocks[s][0] <= stocks[s][2];
        }
        int most = isAny ? mostGroups(0, 0, new long[7][3], stocks) : -1;
        int fewest = most < 0 ? -1 : 6 - most;
        Check.due("(5) no fewer", () -> x.fewest(day), fewest);
        tradesSeen.add(fewest);
        for (int i = 0; i < fewest; i++) {
            int giver = (int) x.trade(day, i, 0);
            int getter = (int) x.trade(day, i, 1);
            long amount = x.trade(day, i, 2);
            Check.holds("(5) of what it is worth", amount > 0 && amount <= worths[giver] && giver != getter);
            worths[giver] -= amount;
            worths[getter] += amount;
        }
        for (int s = 0; s < 6 && fewest >= 0; s++) {
            Check.holds("(5) in its BAND", worths[s] >= stocks[s][0] && worths[s] <= stocks[s][2]);
        }
    }

    // ---- (6)

    private void allComesOfTheLogAlone() {
        Check.alike("(6) of the LOG alone", Whole.of(run.calls(), run::anew),
            Whole.of(run.callsOfTheLogAlone(), run::ofTheLogAlone));
    }

    private static boolean areOpposite(long[] one, long[] other) {
        for (int i = 0; i < one.length; i++) {
            if (one[i] != -other[i]) {
                return false;
            }
        }
        return true;
    }

    private static long[] gains(Lotfolio x) {
        long[] all = new long[56];
        for (int i = 0; i < all.length; i++) {
            all[i] = x.gains(2000 + i / 2, i % 2 == 1);
        }
        return all;
    }

    private static long[] less(long[] more, long[] less) {
        long[] all = new long[more.length];
        for (int i = 0; i < all.length; i++) {
            all[i] = more[i] - less[i];
        }
        return all;
    }

    private void rightAndBackChangesOnlyChanged() {
        Lotfolio x = run.anew();
        if (x.orders() == 0) {
            return;
        }
        int o = run.to(x.orders() - 1);
        int which = run.to(3);
        int value = run.to(20);
        int was = x.order(o, 3 + which);
        long[] before = gains(x);
        if (!Run.make(y -> y.correct(o, which, value), x)) {
            return;
        }
        Check.holds("(6) changed() behind correct()", Arrays.equals(Whole.changed(x), less(gains(x), before)));
        Supplier<Lotfolio> back = () -> {
            Lotfolio y = run.anew();
            y.correct(o, which, value);
            y.correct(o, which, was);
            return y;
        };
        Check.holds("(6) changed() behind what is put back",
            areOpposite(Whole.changed(x), Whole.changed(back.get())));
        Check.alike("(6) put right and back", Whole.of(run.calls() + 2, back), Whole.of(run.calls(), run::anew));
        backSeen += value != was ? 1 : 0;
    }

    private void strikeAndTellChangesOnlyChanged() {
        Lotfolio x = run.anew();
        int o = x.orders() - 1;
        long[] before = gains(x);
        if (!Run.make(y -> y.strike(o), x)) {
            return;
        }
        Check.holds("(6) changed() behind strike()", Arrays.equals(Whole.changed(x), less(gains(x), before)));
        Lotfolio of = run.anew();
        int[] n = {of.order(o, 3), of.order(o, 4), of.order(o, 5), of.order(o, 6)};
        int[] on = {of.order(o, 0), of.order(o, 1), of.order(o, 2)};
        Check.alike("(6) struck and told again", Whole.of(run.calls() + 2, () -> {
            Lotfolio y = run.anew();
            y.strike(o);
            Edges.tell(y, on[0], on[2], on[1], n);
            return y;
        }), Whole.of(run.calls(), run::anew));
        toldAgainSeen++;
    }

    // ---- all

    private void look() {
        int last = run.lastDay();
        sumsAreTheCostOfAllLots();
        leastGivesUpNoLess();
        splitThereAndBackLeavesLots();
        for (int day : new int[] {last, Math.min(9999, last + 400), run.to(last), run.to(4000)}) {
            toldRatesAreBetweenSigns(day);
            noFewerTradesDo(day);
        }
        allComesOfTheLogAlone();
        rightAndBackChangesOnlyChanged();
        strikeAndTellChangesOnlyChanged();
    }

    private static String state(Run run) {
        return run.anew().digest() + lots(run.anew(), true) + Arrays.toString(Whole.changed(run.anew()));
    }

    private static void over(long seed) {
        Run run = new Run(seed);
        AlwaysTest test = new AlwaysTest(run);
        for (int i = 0; i < STEPS; i++) {
            String before = state(run);
            if (run.step()) {
                Check.alike("a refused call changes nothing", state(run), before);
            }
            test.look();
        }
    }

    private static void seen() {
        Check.holds("ORDERS were told, refused, put right, struck and put back",
            Run.told > 500 && Run.refused > 500 && Run.putRight > 200 && Run.struck > 200 && Run.putBack > 100);
        Check.holds("(1) some was BARRED, some was LOST", barredSeen > 200 && lostSeen > 50);
        Check.holds("(2) LEAST gave up more", dearerSeen > 500);
        Check.holds("(3) LOTS were split there and back", splitsSeen > 200);
        Check.holds("(4) no RATE, one and two were told", ratesSeen.containsAll(Set.of(0, 1, 2)));
        Check.holds("(5) no way, and 0 to 5 TRADES", tradesSeen.containsAll(Set.of(-1, 0, 1, 2, 3, 4, 5)));
        Check.holds("(6) ORDERS were put right and back, struck and told again",
            backSeen > 100 && toldAgainSeen > 100);
    }

    public static void main(String[] args) {
        int runs = args.length > 0 ? Integer.parseInt(args[0]) : 60;
        int from = args.length > 1 ? Integer.parseInt(args[1]) : 1;
        for (int i = 0; i < runs; i++) {
            over(from + i);
        }
        if (args.length == 0) {
            seen();
        }
        Check.end();
    }
}
