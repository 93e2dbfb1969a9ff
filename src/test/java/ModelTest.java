import java.util.ArrayList;
import java.util.List;
import java.util.Random;

/** Random runs, with fixed seeds, on Lotfolio and on Model: every answer has to be the same. */
final class ModelTest {
    private static final int[] PRICES = {0, 1, 2, 3, 7, 10, 33, 50, 99, 100, 101, 150, 333, 1000, 99999};
    private final Random r;
    private final int stocks;
    private final int pace;
    private final boolean wild;
    private final Lotfolio x = new Lotfolio();
    private final Model m = new Model();
    private int day;
    /** What an object answers behind its 512th call is free, so no more are made. */
    private int calls;
    private final List<String> trail = new ArrayList<>();

    private ModelTest(long seed) {
        r = new Random(seed);
        stocks = 1 + r.nextInt(r.nextBoolean() ? 2 : 6);
        pace = new int[] {1, 4, 15, 60, 400}[r.nextInt(5)];
        wild = r.nextInt(4) == 0;
        day = r.nextInt(r.nextBoolean() ? 100 : 6000);
    }

    private boolean same(String name, Check.Call one, Check.Call other) {
        if (calls == 512) {
            return true;
        }
        calls++;
        String got = Check.outcome(one);
        String want = Check.outcome(other);
        trail.add(name + " = " + got);
        Check.same(name, got, want);
        if (!got.equals(want)) {
            trail.forEach(System.out::println);
            return false;
        }
        return true;
    }

    /** Mostly in range, sometimes at the edges or beyond. */
    private int num(int from, int to) {
        int w = r.nextInt(wild ? 25 : 150);
        switch (w) {
            case 0:
                return from - 1;
            case 1:
                return to + 1;
            case 2:
                return from;
            case 3:
                return to;
            case 4:
                return r.nextInt();
            default:
                return from + (int) ((long) r.nextInt(Integer.MAX_VALUE) % ((long) to - from + 1));
        }
    }

    private int small(int from, int to, int usual) {
        return num(from, r.nextInt(3) > 0 ? Math.min(usual, to) : to);
    }

    private int aStock() {
        return num(0, stocks - 1);
    }

    private int aDay() {
        return r.nextInt(5) > 0 ? Math.max(0, Math.min(9999, day + r.nextInt(800) - 400)) : num(0, 9999);
    }

    private int aPrice(int least) {
        int p = r.nextInt(4) == 0 ? num(least, 99999) : PRICES[r.nextInt(PRICES.length)];
        return p == 0 && r.nextInt(3) > 0 ? 20 : p;
    }

    private int next() {
        if (r.nextInt(30) == 0) {
            return num(0, 9999);
        }
        int on = day + (r.nextInt(3) == 0 ? 0 : r.nextInt(pace + 1));
        return Math.min(9999, on);
    }

    private boolean tell() {
        int s = aStock();
        int d = next();
        int before = m.log.size();
        boolean fine;
        switch (r.nextInt(14)) {
            case 0: case 1: case 2: case 3: {
                int u = small(1, 9999, 20);
                int p = aPrice(0);
                int f = small(0, 9999, 5);
                fine = same("buy " + s + " " + d + " " + u + " " + p + " " + f,
                    () -> x.buy(s, d, u, p, f), () -> m.tell(0, s, d, u, p, f));
                break;
            }
            case 4: case 5: case 6: case 7: {
                int u = small(1, 99999, r.nextBoolean() ? 5 : 30);
                int p = aPrice(0);
                int c = num(0, 6);
                int l = small(0, 999, 12);
                fine = same("sell " + s + " " + d + " " + u + " " + p + " " + c + " " + l,
                    () -> x.sell(s, d, u, p, c, l), () -> m.tell(1, s, d, u, p, c, l));
                break;
            }
            case 8: {
                int a = small(1, 10, 3);
                int b = small(1, 10, 3);
                int p = aPrice(0);
                fine = same("split " + s + " " + d + " " + a + " " + b + " " + p,
                    () -> x.split(s, d, a, b, p), () -> m.tell(2, s, d, a, b, p));
                break;
            }
            case 9: {
                int c = small(0, 9999, 9);
                fine = same("pay " + s + " " + d + " " + c, () -> x.pay(s, d, c), () -> m.tell(3, s, d, c));
                break;
            }
            case 10: {
                int c = small(0, 9999, 90);
                int p = aPrice(1);
                fine = same("again " + s + " " + d + " " + c + " " + p,
                    () -> x.again(s, d, c, p), () -> m.tell(4, s, d, c, p));
                break;
            }
            case 11: {
                int o = num(0, 5);
                int a = num(1, 10);
                int b = num(1, 10);
                int p = num(0, 1000);
                fine = same("spin " + s + " " + d + " " + o + " " + a + " " + b + " " + p,
                    () -> x.spin(s, d, o, a, b, p), () -> m.tell(5, s, d, o, a, b, p));
                break;
            }
            case 12: {
                int o = num(0, 5);
                int a = num(1, 10);
                int b = num(1, 10);
                int p = aPrice(0);
                fine = same("merge " + s + " " + d + " " + o + " " + a + " " + b + " " + p,
                    () -> x.merge(s, d, o, a, b, p), () -> m.tell(6, s, d, o, a, b, p));
                break;
            }
            default: {
                int k = num(1, r.nextBoolean() ? 4 : 24);
                int money = small(1, 9999999, 3000);
                fine = same("plan " + s + " " + d + " " + k + " " + money,
                    () -> x.plan(s, d, k, money), () -> m.plan(s, d, k, money));
                break;
            }
        }
        if (m.log.size() > before) {
            day = m.log.get(m.log.size() - 1).day();
        }
        return fine;
    }

    private boolean putRight() {
        int o = num(0, Math.max(0, m.log.size() - 1));
        if (r.nextInt(4) == 0) {
            boolean fine = same("strike " + o, () -> x.strike(o), () -> m.strike(o));
            day = m.log.isEmpty() ? day : m.log.get(m.log.size() - 1).day();
            return fine;
        }
        int w = num(0, 3);
        int v = small(0, 99999, 12);
        int digest = m.digest();
        String before = Check.outcome(() -> m.order(o, 3 + w));
        boolean fine = same("correct " + o + " " + w + " " + v, () -> x.correct(o, w, v), () -> m.correct(o, w, v));
        if (r.nextInt(4) == 0 && !before.startsWith("t") && Check.outcome(() -> m.order(o, 3 + w)).equals("" + v)) {
            int old = Integer.parseInt(before);
            fine &= same("put back", () -> x.correct(o, w, old), () -> m.correct(o, w, old));
            fine &= w >= Model.HAS[m.order(o, 0)] || same("nothing changed", x::digest, () -> digest);
        }
        return fine;
    }

    private boolean ask() {
        int s = aStock();
        int d = aDay();
        int o = num(0, Math.max(0, m.log.size() - 1));
        int p = num(0, 4);
        int w = num(0, 6);
        boolean b = r.nextBoolean();
        int y = r.nextInt(3) > 0 ? Model.year(Math.max(0, Math.min(9999, d))) : num(2000, 2027);
        switch (r.nextInt(23)) {
            case 0:
                int yy = num(1998, 2029);
                int mm = num(1, 12);
                int dd = num(1, 31);
                return same("day " + yy + " " + mm + " " + dd, () -> x.day(yy, mm, dd), () -> m.day(yy, mm, dd));
            case 1:
                return same("date " + d, () -> x.date(d), () -> m.date(d));
            case 2:
                return same("priceAt " + s + " " + d, () -> x.priceAt(s, d), () -> m.priceAt(s, d));
            case 3:
                return same("changed " + y + b, () -> x.changed(y, b), () -> m.changed(y, b));
            case 4:
                return same("order " + o + " " + w, () -> x.order(o, w), () -> m.order(o, w))
                    && same("orders", () -> x.orders(), () -> m.log.size());
            case 5:
                return same("lots " + s, () -> x.lots(s), () -> m.lots(s));
            case 6:
                return same("lot " + s + " " + p + " " + w, () -> x.lot(s, p, w), () -> m.lot(s, p, w));
            case 7:
                return same("pieces " + o, () -> x.pieces(o), () -> m.pieces(o));
            case 8:
                return same("piece " + o + " " + p + " " + w, () -> x.piece(o, p, w), () -> m.piece(o, p, w));
            case 9: case 10:
                int u = small(1, 99999, 40);
                int c = num(0, 6);
                int l = small(0, 999, 12);
                return same("given " + s + " " + u + " " + c + " " + l,
                    () -> x.given(s, u, c, l), () -> m.given(s, u, c, l));
            case 11:
                return same("mean " + s, () -> x.mean(s), () -> m.mean(s));
            case 12:
                int w7 = num(0, 7);
                return same("sum " + w7, () -> x.sum(w7), () -> m.sum(w7));
            case 13:
                return same("gains " + y + b, () -> x.gains(y, b), () -> m.gains(y, b))
                    && same("income " + y, () -> x.income(y), () -> m.income(y));
            case 14:
                return same("unitsAt " + s + " " + d, () -> x.unitsAt(s, d), () -> m.unitsAt(s, d));
            case 15:
                return same("worth " + d, () -> x.worth(d), () -> m.worth(d));
            case 16:
                return same("flows " + d, () -> x.flows(d), () -> m.flows(d))
                    && same("turnings " + d, () -> x.turnings(d), () -> m.turnings(d));
            case 17:
                return same("flow " + d + " " + p, () -> x.flow(d, p), () -> m.flow(d, p));
            case 18:
                int k = num(-99, 100);
                return same("sign " + d + " " + k, () -> x.sign(d, k), () -> m.sign(d, k))
                    && same("rest " + d + " " + k, () -> x.rest(d, k), () -> m.rest(d, k));
            case 19:
                int i = num(0, 2);
                return same("inner " + d + " " + i, () -> x.inner(d, i), () -> m.inner(d, i));
            case 20:
                int part = num(0, 3);
                return same("isSound " + part, () -> x.isSound(part) ? 1 : 0, () -> {
                    Model.in(part, 0, 3);
                    return 1;
                });
            default:
                int w2 = num(0, 2);
                int i5 = num(0, 4);
                return same("fewest " + d, () -> x.fewest(d), () -> m.fewest(d))
                    && same("trade " + d + " " + i5 + " " + w2, () -> x.trade(d, i5, w2), () -> m.trade(d, i5, w2));
        }
    }

    private boolean step() {
        int w = r.nextInt(20);
        if (w < 9) {
            return tell();
        }
        if (w < 11) {
            return putRight();
        }
        if (w < 13) {
            int s = num(0, stocks - 1);
            int d = aDay();
            int c = aPrice(0);
            return same("price " + s + " " + d + " " + c, () -> x.price(s, d, c), () -> m.price(s, d, c));
        }
        if (w == 13) {
            int s = num(0, 5);
            int from = num(0, r.nextBoolean() ? 0 : 300);
            int to = r.nextInt(4) == 0 ? num(0, 1000) : num(Math.max(0, from), 1000);
            return same("band " + s + " " + from + " " + to, () -> {
                x.band(s, from, to);
                return 0;
            }, () -> {
                m.band(s, from, to);
                return 0;
            });
        }
        return ask();
    }

    private boolean run(int steps) {
        if (r.nextBoolean()) {
            for (int s = 0; s < stocks; s++) {
                calls++;
                x.price(s, 0, 100);
                m.price(s, 0, 100);
            }
        }
        for (int i = 0; i < steps; i++) {
            boolean isAsked = steps < 300 || i % 8 == 0;
            if (!step() || isAsked && !same("digest", x::digest, m::digest)) {
                return false;
            }
        }
        for (int i = 0; i < 4; i++) {
            int part = i;
            if (!same("sound", () -> x.isSound(part) ? 1 : 0, () -> 1)) {
                return false;
            }
        }
        return true;
    }

    public static void main(String[] args) {
        int runs = args.length > 0 ? Integer.parseInt(args[0]) : 150;
        int from = args.length > 1 ? Integer.parseInt(args[1]) : 1;
        for (int i = 0; i < runs; i++) {
            if (!new ModelTest(from + i).run(i % 10 == 0 ? 380 : 150)) {
                System.out.println("seed " + (from + i));
                break;
            }
        }
        Check.end();
    }
}
