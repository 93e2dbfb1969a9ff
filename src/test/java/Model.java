import java.math.BigInteger;
import java.time.DateTimeException;
import java.time.DayOfWeek;
import java.time.LocalDate;
import java.time.temporal.ChronoUnit;
import java.util.ArrayList;
import java.util.Comparator;
import java.util.List;
import java.util.NoSuchElementException;
import java.util.TreeMap;

/**
 * The document once more, with the Java library and by the plainest ways: the LOG is done anew for
 * every question, sets and ways into groups are all tried, great numbers are BigIntegers.
 */
final class Model {
    static final LocalDate START = LocalDate.of(2000, 1, 1);
    static final int[] HAS = {3, 4, 3, 1, 2, 4, 4};

    static final class Cannot extends RuntimeException {
        private static final long serialVersionUID = 1L;
    }

    record Order(int kind, int day, int stock, int[] n) {
        Order with(int which, int value) {
            int[] m = n.clone();
            m[which] = value;
            return new Order(kind, day, stock, m);
        }
    }

    static final class Lot {
        int number, day, units, free;
        long cost;

        Lot(int number, int day, int units, long cost, int free) {
            this.number = number;
            this.day = day;
            this.units = units;
            this.cost = cost;
            this.free = free;
        }
    }

    static final class Piece {
        int lot, units, stock, day;
        long gave, gain, barred;
        boolean isLong;
        int open;
    }

    record Take(Lot lot, int units, long gave) { }

    final List<Order> log = new ArrayList<>();
    final List<TreeMap<Integer, Integer>> prices = new ArrayList<>();
    final int[] least = new int[6];
    final int[] most = {1000, 1000, 1000, 1000, 1000, 1000};
    final long[][] changes = new long[28][2];

    Model() {
        for (int s = 0; s < 6; s++) {
            prices.add(new TreeMap<>());
        }
    }

    // ---- the state behind the log

    static final class State {
        final List<List<Lot>> lots = new ArrayList<>();
        final List<List<Piece>> pieces = new ArrayList<>();
        final long[][] gains = new long[28][2];
        final long[] income = new long[28];
        final List<long[]> flows = new ArrayList<>();
        final List<int[]> units = new ArrayList<>();
        long cash, parts, barred, bought, gaveUp;
        int next;

        State() {
            for (int s = 0; s < 6; s++) {
                lots.add(new ArrayList<>());
            }
        }

        int unitsOf(int s) {
            return lots.get(s).stream().mapToInt(l -> l.units).sum();
        }

        long costOf(int s) {
            return lots.get(s).stream().mapToLong(l -> l.cost).sum();
        }

        void sort(int s) {
            lots.get(s).sort(Comparator.<Lot>comparingInt(l -> l.day).thenComparingInt(l -> l.number));
        }
    }

    static int year(int day) {
        return START.plusDays(day).getYear();
    }

    static State run(List<Order> log) {
        State t = new State();
        for (Order o : log) {
            t.pieces.add(new ArrayList<>());
            long before = t.cash;
            act(t, o);
            t.flows.add(new long[] {year(o.day), t.cash - before});
            int[] u = new int[6];
            for (int s = 0; s < 6; s++) {
                u[s] = t.unitsOf(s);
                if (t.lots.get(s).size() > 10) {
                    throw new Cannot();
                }
            }
            t.units.add(u);
        }
        return t;
    }

    static void act(State t, Order o) {
        int[] n = o.n;
        int s = o.stock;
        int y = year(o.day) - 2000;
        switch (o.kind) {
            case 0 -> come(t, s, o.day, n[0], (long) n[0] * n[1] + n[2]);
            case 1 -> sell(t, o);
            case 2 -> {
                if ((long) t.unitsOf(s) * n[0] / n[1] > 1000000) {
                    throw new Cannot();
                }
                change(t, s, y, n[0], n[1], n[2]);
                stop(t, s);
            }
            case 3, 4 -> {
                long money = (long) n[0] * t.unitsOf(s);
                t.income[y] += money;
                t.cash += money;
                if (o.kind == 4 && money / n[1] > 0) {
                    if (t.unitsOf(s) + money / n[1] > 1000000) {
                        throw new Cannot();
                    }
                    come(t, s, o.day, (int) (money / n[1]), money / n[1] * n[1]);
                }
            }
            case 5 -> {
                int[] as = changed(t.lots.get(s), n[1], n[2]);
                int i = 0;
                for (Lot l : t.lots.get(s)) {
                    if (as[i] > 0) {
                        long c = l.cost * n[3] / 1000;
                        l.cost -= c;
                        t.lots.get(n[0]).add(new Lot(t.next++, l.day, as[i], c, 0));
                    }
                    i++;
                }
                other(t, s, n[0]);
            }
            default -> {
                change(t, s, y, n[1], n[2], n[3]);
                t.lots.get(n[0]).addAll(t.lots.get(s));
                t.lots.get(s).clear();
                other(t, s, n[0]);
            }
        }
    }

    static void other(State t, int s, int other) {
        t.sort(other);
        if (t.unitsOf(other) > 1000000 || t.lots.get(other).size() > 10) {
            throw new Cannot();
        }
        stop(t, s);
        stop(t, other);
    }

    static void stop(State t, int s) {
        for (Lot l : t.lots.get(s)) {
            l.free = 0;
        }
        for (List<Piece> ps : t.pieces) {
            for (Piece p : ps) {
                if (p.stock == s) {
                    p.open = 0;
                }
            }
        }
    }

    static int[] changed(List<Lot> lots, int a, int b) {
        int[] as = new int[lots.size()];
        long c = 0;
        for (int i = 0; i < as.length; i++) {
            long ahead = c * a / b;
            c += lots.get(i).units;
            as[i] = (int) (c * a / b - ahead);
        }
        return as;
    }

    static void change(State t, int s, int y, int a, int b, int price) {
        List<Lot> lots = t.lots.get(s);
        long rest = (long) t.unitsOf(s) * a % b;
        t.parts += rest * price / b;
        t.cash += rest * price / b;
        int[] as = changed(lots, a, b);
        for (int i = 0; i < as.length; i++) {
            lots.get(i).units = as[i];
        }
        for (int i = 0; i < lots.size();) {
            if (lots.get(i).units > 0) {
                i++;
                continue;
            }
            long cost = lots.remove(i).cost;
            if (i < lots.size()) {
                lots.get(i).cost += cost;
            } else if (i > 0) {
                lots.get(i - 1).cost += cost;
            } else {
                t.gains[y][0] -= cost;
            }
        }
    }

    static void come(State t, int s, int day, int units, long cost) {
        if (t.lots.get(s).size() == 10) {
            throw new Cannot();
        }
        Lot l = new Lot(t.next++, day, units, cost, units);
        t.lots.get(s).add(l);
        t.cash -= cost;
        t.bought += cost;
        for (List<Piece> ps : t.pieces) {
            for (Piece p : ps) {
                if (p.stock == s && day - p.day <= 30) {
                    match(t, p, l);
                }
            }
        }
    }

    static void match(State t, Piece p, Lot l) {
        int m = Math.min(p.open, l.free);
        if (p.gain >= 0 || m == 0) {
            return;
        }
        long bar = BigInteger.valueOf(-p.gain).multiply(BigInteger.valueOf(m))
            .divide(BigInteger.valueOf(p.open)).longValueExact();
        p.open -= m;
        p.gain += bar;
        p.barred += bar;
        t.barred += bar;
        t.gains[year(p.day) - 2000][p.isLong ? 1 : 0] += bar;
        l.cost += bar;
        l.free -= m;
    }

    static long part(long cost, long n, long u) {
        return BigInteger.valueOf(cost).multiply(BigInteger.valueOf(n))
            .divide(BigInteger.valueOf(u)).longValueExact();
    }

    static void spread(List<Lot> lots) {
        long all = lots.stream().mapToLong(l -> l.cost).sum();
        long units = lots.stream().mapToLong(l -> l.units).sum();
        long c = 0;
        for (Lot l : lots) {
            long ahead = part(all, c, units);
            c += l.units;
            l.cost = part(all, c, units) - ahead;
        }
    }

    /** May spread the COST of the LOTS anew. */
    static List<Take> choose(List<Lot> lots, int n, int custom, int told) {
        if (lots.stream().mapToInt(l -> l.units).sum() < n) {
            throw new Cannot();
        }
        List<Lot> turn = new ArrayList<>(lots);
        Comparator<Lot> cheap = (x, z) -> BigInteger.valueOf(x.cost).multiply(BigInteger.valueOf(z.units))
            .compareTo(BigInteger.valueOf(z.cost).multiply(BigInteger.valueOf(x.units)));
        switch (custom) {
            case 1 -> java.util.Collections.reverse(turn);
            case 2 -> turn.sort(cheap.reversed());
            case 3 -> turn.sort(cheap);
            case 4 -> {
                Lot first = lots.stream().filter(l -> l.number == told).findFirst().orElseThrow(Cannot::new);
                turn.remove(first);
                turn.add(0, first);
            }
            case 5 -> spread(lots);
            case 6 -> turn = bestSet(lots, n);
            default -> { }
        }
        List<Take> takes = new ArrayList<>();
        int left = n;
        for (Lot l : turn) {
            int m = Math.min(left, l.units);
            if (m > 0) {
                takes.add(new Take(l, m, part(l.cost, m, l.units)));
                left -= m;
            }
        }
        return takes;
    }

    static List<Lot> bestSet(List<Lot> lots, int n) {
        List<Lot> best = null;
        long bestGave = -1;
        for (int set = 1; set < 1 << lots.size(); set++) {
            for (int p = 0; p < lots.size(); p++) {
                if ((set & 1 << p) == 0) {
                    continue;
                }
                List<Lot> order = new ArrayList<>();
                long gave = 0;
                int rest = n;
                for (int i = 0; i < lots.size(); i++) {
                    if ((set & 1 << i) != 0 && i != p) {
                        order.add(lots.get(i));
                        gave += lots.get(i).cost;
                        rest -= lots.get(i).units;
                    }
                }
                Lot last = lots.get(p);
                order.add(last);
                if (rest < 1 || rest > last.units) {
                    continue;
                }
                gave += part(last.cost, rest, last.units);
                if (gave > bestGave) {
                    bestGave = gave;
                    best = order;
                }
            }
        }
        return best;
    }

    static void sell(State t, Order o) {
        List<Lot> lots = t.lots.get(o.stock);
        List<Take> takes = choose(lots, o.n[0], o.n[2], o.n[3]);
        List<Piece> ps = t.pieces.get(t.pieces.size() - 1);
        LocalDate sold = START.plusDays(o.day);
        for (Take k : takes) {
            Piece p = new Piece();
            p.lot = k.lot.number;
            p.units = k.units;
            p.stock = o.stock;
            p.day = o.day;
            p.gave = k.gave;
            p.gain = (long) k.units * o.n[1] - k.gave;
            p.isLong = sold.isAfter(START.plusDays(k.lot.day).plusYears(1));
            p.open = p.gain < 0 ? k.units : 0;
            ps.add(p);
            t.cash += (long) k.units * o.n[1];
            t.gaveUp += k.gave;
            t.gains[year(o.day) - 2000][p.isLong ? 1 : 0] += p.gain;
            k.lot.units -= k.units;
            k.lot.cost -= k.gave;
            k.lot.free = Math.min(k.lot.free, k.lot.units);
        }
        lots.removeIf(l -> l.units == 0);
        for (Piece p : ps) {
            for (Lot l : lots) {
                if (l.day >= o.day - 30 && ps.stream().noneMatch(q -> q.lot == l.number)) {
                    match(t, p, l);
                }
            }
        }
    }

    State state() {
        return run(log);
    }

    // ---- the face

    static void need(boolean holds) {
        if (!holds) {
            throw new IllegalArgumentException();
        }
    }

    static void stock(int s) {
        need(s >= 0 && s < 6);
    }

    static void aDay(int d) {
        need(d >= 0 && d <= 9999);
    }

    static void in(int v, int from, int to) {
        need(v >= from && v <= to);
    }

    static void place(boolean holds) {
        if (!holds) {
            throw new IndexOutOfBoundsException();
        }
    }

    int day(int y, int m, int d) {
        long at;
        try {
            at = ChronoUnit.DAYS.between(START, LocalDate.of(y, m, d));
        } catch (DateTimeException e) {
            throw new DateTimeException("");
        }
        need(at >= 0 && at <= 9999);
        return (int) at;
    }

    int date(int day) {
        aDay(day);
        LocalDate d = START.plusDays(day);
        return d.getYear() * 10000 + d.getMonthValue() * 100 + d.getDayOfMonth();
    }

    int price(int s, int day, int cents) {
        stock(s);
        aDay(day);
        in(cents, 0, 99999);
        prices.get(s).put(day, cents);
        return prices.get(s).size();
    }

    int priceAt(int s, int day) {
        stock(s);
        aDay(day);
        if (prices.get(s).floorEntry(day) == null) {
            throw new NoSuchElementException();
        }
        return prices.get(s).floorEntry(day).getValue();
    }

    static boolean fits(int kind, int s, int[] n) {
        switch (kind) {
            case 0:
                return n[0] >= 1 && n[0] <= 9999 && n[1] >= 0 && n[1] <= 99999 && n[2] >= 0 && n[2] <= 9999;
            case 1:
                return n[0] >= 1 && n[0] <= 99999 && n[1] >= 0 && n[1] <= 99999
                    && n[2] >= 0 && n[2] <= 6 && n[3] >= 0 && n[3] <= 999;
            case 2:
                return n[0] >= 1 && n[0] <= 10 && n[1] >= 1 && n[1] <= 10 && n[2] >= 0 && n[2] <= 99999;
            case 3:
                return n[0] >= 0 && n[0] <= 9999;
            case 4:
                return n[0] >= 0 && n[0] <= 9999 && n[1] >= 1 && n[1] <= 99999;
            default:
                return n[0] >= 0 && n[0] <= 5 && n[0] != s && n[1] >= 1 && n[1] <= 10 && n[2] >= 1
                    && n[2] <= 10 && n[3] >= 0 && n[3] <= (kind == 5 ? 1000 : 99999);
        }
    }

    int tell(int kind, int s, int day, int... some) {
        int[] n = java.util.Arrays.copyOf(some, 5);
        stock(s);
        aDay(day);
        need(fits(kind, s, n));
        tryLog(log, new Order(kind, day, s, n));
        return log.size() - 1;
    }

    static void tryLog(List<Order> log, Order o) {
        if (log.size() == 60 || !log.isEmpty() && log.get(log.size() - 1).day > o.day) {
            throw new IllegalStateException();
        }
        List<Order> with = new ArrayList<>(log);
        with.add(o);
        done(with);
        log.add(o);
    }

    static State done(List<Order> log) {
        try {
            return run(log);
        } catch (Cannot e) {
            throw new IllegalStateException();
        }
    }

    int plan(int s, int day, int months, int money) {
        stock(s);
        aDay(day);
        in(months, 1, 24);
        in(money, 1, 9999999);
        int[] days = new int[months];
        for (int i = 0; i < months; i++) {
            LocalDate d = START.plusDays(day).plusMonths(i);
            while (d.getDayOfWeek() == DayOfWeek.SATURDAY || d.getDayOfWeek() == DayOfWeek.SUNDAY) {
                d = d.plusDays(1);
            }
            days[i] = (int) ChronoUnit.DAYS.between(START, d);
            aDay(days[i]);
        }
        List<Order> with = new ArrayList<>(log);
        for (int d : days) {
            int p;
            try {
                p = priceAt(s, d);
            } catch (NoSuchElementException e) {
                throw new IllegalStateException();
            }
            if (p == 0) {
                throw new IllegalStateException();
            }
            if (money / p >= 1 && money / p <= 9999) {
                tryLog(with, new Order(0, d, s, new int[] {money / p, p, 0, 0, 0}));
            }
        }
        int came = with.size() - log.size();
        log.clear();
        log.addAll(with);
        return came;
    }

    int correct(int order, int which, int value) {
        place(order >= 0 && order < log.size());
        Order o = log.get(order);
        place(which >= 0 && which < HAS[o.kind]);
        Order right = o.with(which, value);
        if (!fits(o.kind, o.stock, right.n)) {
            throw new IllegalStateException();
        }
        List<Order> with = new ArrayList<>(log);
        with.set(order, right);
        replace(with);
        return o.n[which];
    }

    int strike(int order) {
        place(order >= 0 && order < log.size());
        List<Order> with = new ArrayList<>(log);
        with.remove(order);
        replace(with);
        return log.size();
    }

    private void replace(List<Order> with) {
        State now = done(with);
        State before = state();
        for (int y = 0; y < 28; y++) {
            for (int l = 0; l < 2; l++) {
                changes[y][l] = now.gains[y][l] - before.gains[y][l];
            }
        }
        log.clear();
        log.addAll(with);
    }

    long changed(int year, boolean isLong) {
        in(year, 2000, 2027);
        return changes[year - 2000][isLong ? 1 : 0];
    }

    int order(int order, int what) {
        place(order >= 0 && order < log.size());
        in(what, 0, 7);
        Order o = log.get(order);
        return what == 0 ? o.kind : what == 1 ? o.day : what == 2 ? o.stock : o.n[what - 3];
    }

    int lots(int s) {
        stock(s);
        return state().lots.get(s).size();
    }

    long lot(int s, int place, int what) {
        stock(s);
        in(what, 0, 4);
        List<Lot> lots = state().lots.get(s);
        place(place >= 0 && place < lots.size());
        return ofLot(lots.get(place), what);
    }

    static long ofLot(Lot l, int what) {
        return new long[] {l.number, l.day, l.units, l.cost, l.free}[what];
    }

    int pieces(int order) {
        place(order >= 0 && order < log.size());
        return state().pieces.get(order).size();
    }

    long piece(int order, int place, int what) {
        place(order >= 0 && order < log.size());
        List<Piece> ps = state().pieces.get(order);
        place(place >= 0 && place < ps.size());
        in(what, 0, 6);
        return ofPiece(ps.get(place), what);
    }

    long ofPiece(Piece p, int what) {
        int open = log.get(log.size() - 1).day - p.day > 30 ? 0 : p.open;
        return new long[] {p.lot, p.units, p.gave, p.gain, p.isLong ? 1 : 0, p.barred, open}[what];
    }

    long given(int s, int units, int custom, int lot) {
        stock(s);
        in(units, 1, 99999);
        in(custom, 0, 6);
        in(lot, 0, 999);
        try {
            return choose(state().lots.get(s), units, custom, lot).stream().mapToLong(k -> k.gave).sum();
        } catch (Cannot e) {
            throw new IllegalStateException();
        }
    }

    long mean(int s) {
        stock(s);
        State t = state();
        if (t.unitsOf(s) == 0) {
            throw new ArithmeticException();
        }
        return t.costOf(s) / t.unitsOf(s);
    }

    long sum(int what) {
        in(what, 0, 7);
        return sum(state(), what);
    }

    static long sum(State t, int what) {
        long cost = 0;
        long gains = 0;
        long income = 0;
        for (int s = 0; s < 6; s++) {
            cost += t.costOf(s);
        }
        for (int y = 0; y < 28; y++) {
            gains += t.gains[y][0] + t.gains[y][1];
            income += t.income[y];
        }
        return new long[] {t.cash, cost, gains, income, t.parts, t.barred, t.bought, t.gaveUp}[what];
    }

    long gains(int year, boolean isLong) {
        in(year, 2000, 2027);
        return state().gains[year - 2000][isLong ? 1 : 0];
    }

    long income(int year) {
        in(year, 2000, 2027);
        return state().income[year - 2000];
    }

    int unitsAt(int s, int day) {
        stock(s);
        aDay(day);
        State t = state();
        int units = 0;
        for (int i = 0; i < log.size(); i++) {
            units = log.get(i).day <= day ? t.units.get(i)[s] : units;
        }
        return units;
    }

    long worthOf(int s, int day) {
        return unitsAt(s, day) == 0 ? 0 : (long) unitsAt(s, day) * priceAt(s, day);
    }

    long worth(int day) {
        aDay(day);
        long all = 0;
        for (int s = 0; s < 6; s++) {
            all += worthOf(s, day);
        }
        return all;
    }

    long[] allFlows(int day) {
        aDay(day);
        if (log.isEmpty() || log.get(0).day > day) {
            throw new IllegalStateException();
        }
        int first = year(log.get(0).day);
        int n = year(day) - first + 1;
        if (n > 12) {
            throw new IllegalStateException();
        }
        State t = state();
        long[] flows = new long[n];
        for (int i = 0; i < log.size(); i++) {
            if (log.get(i).day <= day) {
                flows[(int) t.flows.get(i)[0] - first] += t.flows.get(i)[1];
            }
        }
        flows[n - 1] += worth(day);
        return flows;
    }

    int flows(int day) {
        return allFlows(day).length;
    }

    long flow(int day, int i) {
        long[] flows = allFlows(day);
        place(i >= 0 && i < flows.length);
        return flows[i];
    }

    int turnings(int day) {
        int turns = 0;
        int sign = 0;
        for (long f : allFlows(day)) {
            int now = Long.signum(f);
            turns += now * sign < 0 ? 1 : 0;
            sign = now == 0 ? sign : now;
        }
        return turns;
    }

    static BigInteger byRate(long[] flows, int rate) {
        BigInteger sum = BigInteger.ZERO;
        for (int i = 0; i < flows.length; i++) {
            sum = sum.add(BigInteger.valueOf(flows[i])
                .multiply(BigInteger.valueOf(100 + rate).pow(flows.length - 1 - i))
                .multiply(BigInteger.valueOf(100).pow(i)));
        }
        return sum;
    }

    int sign(int day, int rate) {
        in(rate, -99, 100);
        return byRate(allFlows(day), rate).signum();
    }

    int rest(int day, int rate) {
        in(rate, -99, 100);
        return byRate(allFlows(day), rate).mod(BigInteger.valueOf(1000003)).intValueExact();
    }

    int inner(int day, int i) {
        long[] flows = allFlows(day);
        place(i >= 0);
        boolean none = true;
        for (long f : flows) {
            none &= f == 0;
        }
        List<Integer> rates = new ArrayList<>();
        for (int k = -99; k <= 100 && !none; k++) {
            int here = byRate(flows, k).signum();
            if (here == 0 || k < 100 && here * byRate(flows, k + 1).signum() < 0) {
                rates.add(k);
            }
        }
        return i < rates.size() ? rates.get(i) : -100;
    }

    void band(int s, int from, int to) {
        stock(s);
        in(from, 0, 1000);
        in(to, from, 1000);
        least[s] = from;
        most[s] = to;
    }

    /** All ways into groups, each way as the sets of its groups by their least STOCKS. */
    private static void ways(int left, List<Integer> way, List<List<Integer>> all) {
        if (left == 0) {
            all.add(new ArrayList<>(way));
            return;
        }
        for (int set = 1; set <= left; set++) {
            if ((set & left) == set && (set & Integer.lowestOneBit(left)) != 0) {
                way.add(set);
                ways(left - set, way, all);
                way.remove(way.size() - 1);
            }
        }
    }

    /** The TRADES, or null if there is no way. */
    List<long[]> trades(int day) {
        aDay(day);
        long all = worth(day);
        long[] w = new long[6];
        long[] from = new long[6];
        long[] to = new long[6];
        for (int s = 0; s < 6; s++) {
            w[s] = worthOf(s, day);
            from[s] = (least[s] * all + 999) / 1000;
            to[s] = most[s] * all / 1000;
            if (from[s] > to[s]) {
                return null;
            }
        }
        List<List<Integer>> ways = new ArrayList<>();
        ways((1 << 6) - 1, new ArrayList<>(), ways);
        List<Integer> best = null;
        for (List<Integer> way : ways) {
            boolean holds = true;
            for (int set : way) {
                long a = 0;
                long b = 0;
                long c = 0;
                for (int s = 0; s < 6; s++) {
                    if ((set & 1 << s) != 0) {
                        a += from[s];
                        b += w[s];
                        c += to[s];
                    }
                }
                holds &= a <= b && b <= c;
            }
            if (holds && (best == null || way.size() > best.size()
                || way.size() == best.size() && isLess(way, best))) {
                best = way;
            }
        }
        if (best == null) {
            return null;
        }
        List<long[]> trades = new ArrayList<>();
        for (int set : best) {
            tradeIn(set, w, from, to, trades);
        }
        return trades;
    }

    private static boolean isLess(List<Integer> one, List<Integer> other) {
        for (int i = 0; i < one.size(); i++) {
            if (!one.get(i).equals(other.get(i))) {
                return one.get(i) < other.get(i);
            }
        }
        return false;
    }

    private static void tradeIn(int set, long[] w, long[] from, long[] to, List<long[]> trades) {
        long[] above = new long[6];
        long over = 0;
        for (int s = 0; s < 6; s++) {
            over += (set & 1 << s) != 0 ? w[s] - from[s] : 0;
        }
        for (int s = 0; s < 6; s++) {
            if ((set & 1 << s) != 0) {
                long more = Math.min(over, to[s] - from[s]);
                over -= more;
                above[s] = w[s] - from[s] - more;
            }
        }
        while (true) {
            int giver = -1;
            int getter = -1;
            for (int s = 5; s >= 0; s--) {
                giver = above[s] > 0 ? s : giver;
                getter = above[s] < 0 ? s : getter;
            }
            if (giver < 0) {
                return;
            }
            long amount = Math.min(above[giver], -above[getter]);
            above[giver] -= amount;
            above[getter] += amount;
            trades.add(new long[] {giver, getter, amount});
        }
    }

    int fewest(int day) {
        List<long[]> trades = trades(day);
        return trades == null ? -1 : trades.size();
    }

    long trade(int day, int i, int what) {
        aDay(day);
        in(what, 0, 2);
        List<long[]> trades = trades(day);
        place(trades != null && i >= 0 && i < trades.size());
        return trades.get(i)[what];
    }

    int digest() {
        State t = state();
        List<Long> all = new ArrayList<>();
        for (int o = 0; o < log.size(); o++) {
            for (int w = 0; w < 8; w++) {
                all.add((long) order(o, w));
            }
            for (Piece p : t.pieces.get(o)) {
                for (int w = 0; w < 7; w++) {
                    all.add(ofPiece(p, w));
                }
            }
        }
        for (List<Lot> lots : t.lots) {
            for (Lot l : lots) {
                for (int w = 0; w < 5; w++) {
                    all.add(ofLot(l, w));
                }
            }
        }
        for (int w = 0; w < 8; w++) {
            all.add(sum(t, w));
        }
        for (int y = 0; y < 28; y++) {
            all.add(t.gains[y][0]);
            all.add(t.gains[y][1]);
            all.add(t.income[y]);
        }
        long h = 7;
        for (long v : all) {
            h = Math.floorMod(257 * h + Math.floorMod(v, 65521L), 65521L);
        }
        return (int) h;
    }
}
