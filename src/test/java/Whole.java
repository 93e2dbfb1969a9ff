import java.util.function.Supplier;

/** All that can be asked, as one text: of objects that are alike, as one is good for 512 calls. */
final class Whole {
    private interface Question {
        long of(Lotfolio x);
    }

    private final Supplier<Lotfolio> make;
    /** How many questions a new object is good for. */
    private final int good;
    private final StringBuilder text = new StringBuilder();
    private Lotfolio x;
    private int left;

    private Whole(Supplier<Lotfolio> make, int calls) {
        this.make = make;
        good = 512 - calls;
    }

    /** What comes of the LOG, PRICES and BANDS: all but changed(). The objects come with so many calls, at most. */
    static String of(int calls, Supplier<Lotfolio> make) {
        Whole all = new Whole(make, calls);
        all.orders();
        all.lots();
        all.years();
        for (int day : new int[] {0, 30, 366, 1500, 9999}) {
            all.day(day);
        }
        return all.text.toString();
    }

    static long[] changed(Lotfolio x) {
        long[] all = new long[56];
        for (int i = 0; i < all.length; i++) {
            all[i] = x.changed(2000 + i / 2, i % 2 == 1);
        }
        return all;
    }

    private long put(Question question) {
        if (left == 0) {
            x = make.get();
            left = good;
        }
        left--;
        Lotfolio of = x;
        String came = Check.outcome(() -> question.of(of));
        text.append(came).append(' ');
        return came.startsWith("throws") ? 0 : Long.parseLong(came);
    }

    private void orders() {
        long count = put(Lotfolio::orders);
        for (int i = 0; i < count; i++) {
            int o = i;
            text.append('\n');
            for (int what = 0; what < 8; what++) {
                int w = what;
                put(y -> y.order(o, w));
            }
            long pieces = put(y -> y.pieces(o));
            for (int v = 0; v < 7 * pieces; v++) {
                int value = v;
                put(y -> y.piece(o, value / 7, value % 7));
            }
        }
    }

    private void lots() {
        for (int i = 0; i < 6; i++) {
            int s = i;
            text.append("\nlots ");
            long lots = put(y -> y.lots(s));
            for (int v = 0; v < 5 * lots; v++) {
                int value = v;
                put(y -> y.lot(s, value / 5, value % 5));
            }
            put(y -> y.mean(s));
            for (int custom = 0; custom < 7; custom++) {
                int c = custom;
                put(y -> y.given(s, 7, c, 3));
            }
        }
    }

    private void years() {
        text.append("\nyears ");
        for (int i = 2000; i < 2028; i++) {
            int year = i;
            put(y -> y.gains(year, false));
            put(y -> y.gains(year, true));
            put(y -> y.income(year));
        }
        for (int what = 0; what < 8; what++) {
            int w = what;
            put(y -> y.sum(w));
        }
        put(Lotfolio::digest);
        put(y -> y.isSound(0) ? 1 : 0);
    }

    private void day(int day) {
        text.append("\nday ").append(day).append(' ');
        for (int i = 0; i < 6; i++) {
            int s = i;
            put(y -> y.priceAt(s, day));
            put(y -> y.unitsAt(s, day));
        }
        put(y -> y.worth(day));
        long flows = put(y -> y.flows(day));
        for (int i = 0; i < flows; i++) {
            int f = i;
            put(y -> y.flow(day, f));
        }
        put(y -> y.turnings(day));
        put(y -> y.sign(day, 5));
        put(y -> y.rest(day, -7));
        put(y -> y.inner(day, 0));
        put(y -> y.inner(day, 1));
        long trades = put(y -> y.fewest(day));
        for (int v = 0; v < 3 * trades; v++) {
            int value = v;
            put(y -> y.trade(day, value / 3, value % 3));
        }
    }
}
