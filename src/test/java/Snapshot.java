/** All that can be asked of an object, and what it does next, as one text: two that are alike have the same. */
final class Snapshot {
    private static final int[] DAYS = {0, 100, 400, 3000, 9999};
    private final Lotfolio x;
    private final StringBuilder text = new StringBuilder();

    private Snapshot(Lotfolio x) {
        this.x = x;
    }

    /** Some 250 calls; the last ones tell ORDERS and put them right, so the object is good for nothing else behind it. */
    static String of(Lotfolio x) {
        Snapshot all = new Snapshot(x);
        all.ofLog();
        for (int day : DAYS) {
            all.ofDay(day);
        }
        all.ofWhatComesNext();
        return all.text.toString();
    }

    private void put(String name, Check.Call call) {
        text.append(name).append(' ').append(Check.outcome(call)).append(' ');
    }

    private void ofLog() {
        put("orders", x::orders);
        put("digest", x::digest);
        put("sound", () -> x.isSound(0) ? 1 : 0);
        for (int i = 2000; i < 2028; i++) {
            int year = i;
            put("changed", () -> x.changed(year, false));
            put("long", () -> x.changed(year, true));
        }
    }

    private void ofDay(int day) {
        text.append('\n').append(day).append(' ');
        for (int i = 0; i < 6; i++) {
            int stock = i;
            put("priceAt", () -> x.priceAt(stock, day));
            put("unitsAt", () -> x.unitsAt(stock, day));
        }
        put("worth", () -> x.worth(day));
        put("flows", () -> x.flows(day));
        put("inner", () -> x.inner(day, 0));
        put("fewest", () -> x.fewest(day));
        for (int i = 0; i < 15; i++) {
            int at = i;
            put("trade", () -> x.trade(day, at / 3, at % 3));
        }
    }

    /** PRICES that are told count those told before; a LOT that comes bears the next number. */
    private void ofWhatComesNext() {
        text.append('\n');
        for (int i = 0; i < 6; i++) {
            int stock = i;
            put("price", () -> x.price(stock, 9999, 77));
        }
        put("buy", () -> x.buy(5, 9999, 1, 1, 0));
        put("last lot", () -> x.lot(5, x.lots(5) - 1, 0));
        put("digest", x::digest);
        put("correct", () -> x.correct(x.orders() - 1, 0, 2));
        put("digest", x::digest);
        put("strike", () -> x.strike(0));
        put("digest", x::digest);
    }
}
