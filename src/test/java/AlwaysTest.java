import java.util.ArrayList;
import java.util.List;
import java.util.Random;

/** "WHAT ALWAYS HOLDS", (1) to (6), on random runs with fixed seeds. */
final class AlwaysTest {
    /** A call that changes an object; one that is refused changes nothing. */
    private interface Change {
        void on(Lotfolio x);
    }

    private final Random r;
    /** All that was told: an object is good for 512 calls, so each question is asked of a new one. */
    private final List<Change> told = new ArrayList<>();
    private Lotfolio x = new Lotfolio();
    private int day;

    private AlwaysTest(long seed) {
        r = new Random(seed);
    }

    private int to(int most) {
        return r.nextInt(most + 1);
    }

    private void change(Change call) {
        told.add(call);
        Check.outcome(() -> {
            call.on(x);
            return 0;
        });
    }

    private void anew() {
        x = new Lotfolio();
        for (Change call : told) {
            Check.outcome(() -> {
                call.on(x);
                return 0;
            });
        }
    }

    private void order() {
        int s = to(2);
        int other = (s + 1) % 3;
        day = Math.min(4000, day + to(r.nextInt(4) == 0 ? 300 : 20));
        int d = day;
        int many = to(50);
        int cents = to(300);
        int a = 1 + to(9);
        int b = 1 + to(9);
        int custom = to(6);
        int part = to(1000);
        boolean either = r.nextBoolean();
        switch (to(9)) {
            case 0: case 1: case 2: case 3:
                change(y -> y.buy(s, d, 1 + many, cents, a));
                break;
            case 4: case 5: case 6:
                change(y -> y.sell(s, d, 1 + many, cents, custom, a + b));
                break;
            case 7:
                change(y -> y.split(s, d, a, b, cents));
                break;
            case 8:
                change(either ? y -> y.pay(s, d, many) : y -> y.again(s, d, many, 1 + cents));
                break;
            default:
                change(either ? y -> y.spin(s, d, other, a, b, part) : y -> y.merge(s, d, other, a, b, cents));
                break;
        }
    }

    private void sums() {
        Check.holds("(1)", x.sum(2) + x.sum(3) + x.sum(4) - x.sum(0) == x.sum(1));
        long cost = 0;
        for (int s = 0; s < 6; s++) {
            for (int i = 0; i < x.lots(s); i++) {
                cost += x.lot(s, i, 3);
                Check.holds("lots are in order of days", i == 0 || x.lot(s, i - 1, 1) < x.lot(s, i, 1)
                    || x.lot(s, i - 1, 1) == x.lot(s, i, 1) && x.lot(s, i - 1, 0) < x.lot(s, i, 0));
                Check.holds("free", x.lot(s, i, 4) >= 0 && x.lot(s, i, 4) <= x.lot(s, i, 2) && x.lot(s, i, 2) > 0);
                Check.holds("cost", x.lot(s, i, 3) >= 0);
            }
        }
        Check.holds("sum of cost", cost == x.sum(1));
        for (int part = 0; part < 4; part++) {
            Check.holds("sound", x.isSound(part));
        }
    }

    private void least() {
        int s = to(2);
        int units = x.unitsAt(s, 9999);
        if (units > 0) {
            int n = 1 + r.nextInt(Math.min(99999, units));
            long most = x.given(s, n, 6, 0);
            for (int custom = 0; custom < 4; custom++) {
                Check.holds("(2)", most >= x.given(s, n, custom, 0));
            }
            for (int i = 0; i < x.lots(s); i++) {
                Check.holds("(2) told", most >= x.given(s, n, 4, (int) x.lot(s, i, 0)));
            }
        }
    }

    private String lots(int s) {
        StringBuilder all = new StringBuilder();
        for (int i = 0; i < x.lots(s); i++) {
            for (int w = 0; w < 4; w++) {
                all.append(x.lot(s, i, w)).append(' ');
            }
        }
        return all.toString();
    }

    private void splits() {
        int s = to(2);
        int a = 1 + to(9);
        String before = lots(s);
        if (x.orders() < 59 && x.unitsAt(s, 9999) <= 1000000 / a) {
            x.split(s, day, a, 1, 3);
            x.split(s, day, 1, a, 3);
            Check.same("(3)", lots(s), before);
        }
    }

    private void rates() {
        if (x.orders() == 0 || x.order(0, 1) > day) {
            return;
        }
        int told = 0;
        for (int i = 0; i < 12 && x.inner(day, i) != -100; i++) {
            int rate = x.inner(day, i);
            told++;
            int here = x.sign(day, rate);
            Check.holds("(4)", here == 0 || here == -x.sign(day, rate + 1));
        }
        Check.holds("(4) no more than they turn", told <= x.turnings(day));
    }

    private void trades() {
        long all = x.worth(day);
        long[] w = new long[6];
        for (int s = 0; s < 6; s++) {
            w[s] = x.unitsAt(s, day) == 0 ? 0 : (long) x.unitsAt(s, day) * x.priceAt(s, day);
        }
        int[] least = new int[6];
        int[] most = new int[6];
        for (int s = 0; s < 6; s++) {
            least[s] = r.nextBoolean() ? 0 : to(250);
            most[s] = least[s] + to(1000 - least[s]) / (1 + to(3));
            x.band(s, least[s], most[s]);
        }
        int n = x.fewest(day);
        for (int i = 0; i < n; i++) {
            long amount = x.trade(day, i, 2);
            Check.holds("(5) gives of what it is worth", amount > 0 && amount <= w[(int) x.trade(day, i, 0)]);
            w[(int) x.trade(day, i, 0)] -= amount;
            w[(int) x.trade(day, i, 1)] += amount;
        }
        for (int s = 0; s < 6 && n >= 0; s++) {
            Check.holds("(5) in its band", 1000 * w[s] >= least[s] * all && 1000 * w[s] <= most[s] * all);
        }
    }

    private void putBack() {
        if (x.orders() == 0) {
            return;
        }
        int o = r.nextInt(x.orders());
        int which = to(3);
        int digest = x.digest();
        int was = x.order(o, 3 + which);
        String came = Check.outcome(() -> x.correct(o, which, to(20)));
        if (!came.startsWith("throws")) {
            Check.due("(6) what it was", () -> x.correct(o, which, was), x.order(o, 3 + which));
        }
        Check.holds("(6)", x.digest() == digest);
    }

    private void run() {
        for (int s = 0; s < 6; s++) {
            int stock = s;
            int cents = 1 + to(200);
            change(y -> y.price(stock, 0, cents));
        }
        for (int i = 0; i < 60; i++) {
            order();
            sums();
            anew();
            switch (to(4)) {
                case 0:
                    least();
                    break;
                case 1:
                    splits();
                    break;
                case 2:
                    rates();
                    break;
                case 3:
                    trades();
                    break;
                default:
                    putBack();
                    break;
            }
            anew();
        }
    }

    public static void main(String[] args) {
        for (int seed = 1; seed <= 120; seed++) {
            new AlwaysTest(seed).run();
        }
        Check.end();
    }
}
