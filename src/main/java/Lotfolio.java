import java.time.DateTimeException;
import java.util.Arrays;
import java.util.NoSuchElementException;

/**
 * Shares in lots, kept as a log of orders that can be put right behind their time. The words in
 * capitals in the comments are those of the document.
 */
public final class Lotfolio {
    public static final int NONE = -1;

    private static final int STOCKS = 6;
    private static final int LAST_DAY = 9999;
    private static final int FIRST_YEAR = 2000;
    private static final int YEARS = 28;
    private static final int MOST_ORDERS = 60;
    private static final int MOST_LOTS = 10;
    private static final int MOST_UNITS = 1000000;
    private static final int MOST_MONTHS = 24;
    private static final int MOST_MONEY = 9999999;
    private static final int MOST_CENTS = 99999;
    private static final int WAITING_DAYS = 30;
    private static final int LEAST_RATE = -99;
    private static final int MOST_RATE = 100;
    private static final int THOUSAND = 1000;

    private static final int BUY = 0;
    private static final int SELL = 1;
    private static final int SPLIT = 2;
    private static final int PAY = 3;
    private static final int AGAIN = 4;
    private static final int SPIN = 5;
    private static final int MERGER = 6;

    private static final int LAST = 1;
    private static final int DEAREST = 2;
    private static final int CHEAPEST = 3;
    private static final int TOLD = 4;
    private static final int MEAN = 5;
    private static final int LEAST = 6;

    /** No KIND has more than four of the five NUMBERS: the fifth is always 0. */
    private static final int WIDTH = 4;
    private static final int ALL_NUMBERS = 5;

    private static final int[] NUMBERS_OF_KIND = {3, 4, 3, 1, 2, 4, 4};

    /** The least value of each NUMBER, a row of WIDTH for each KIND. */
    private static final int[] FROM = {
        1, 0, 0, 0,
        1, 0, 0, 0,
        1, 1, 0, 0,
        0, 0, 0, 0,
        0, 1, 0, 0,
        0, 1, 1, 0,
        0, 1, 1, 0};

    /** The greatest value of each NUMBER, a row of WIDTH for each KIND. */
    private static final int[] TO = {
        9999, 99999, 9999, 0,
        99999, 99999, 6, 999,
        10, 10, 99999, 0,
        9999, 0, 0, 0,
        9999, 99999, 0, 0,
        5, 10, 10, 1000,
        5, 10, 10, 99999};

    /** The calendar from the 1st of January 2000 on; right as far as the year 2099. */
    private static final class Days {
        private static final int FOUR_YEARS = 1461;
        /** In four years from a leap year on: its 29th of February, and the 1st of March ahead of the next. */
        private static final int LEAP_DAY = 59;
        private static final int LEAP_DAY_A_YEAR_OFF = 1155;
        private static final int LEAP_YEAR = 366;
        private static final int YEAR = 365;
        private static final int MONTHS = 12;
        private static final int WEEK = 7;
        private static final int GREATEST_YEAR = 999999999;
        private static final int[] MONTH_LENGTHS = {31, 28, 31, 30, 31, 30, 31, 31, 30, 31, 30, 31};

        static boolean isLeap(int year) {
            return year % 4 == 0 && (year % 100 != 0 || year % 400 == 0);
        }

        static int monthLength(int year, int month) {
            if (month < 1 || month > MONTHS) {
                return 0;
            }
            return MONTH_LENGTHS[month - 1] + (month == 2 && isLeap(year) ? 1 : 0);
        }

        static boolean isDate(int year, int month, int dayOfMonth) {
            return year >= -GREATEST_YEAR && year <= GREATEST_YEAR
                && dayOfMonth >= 1 && dayOfMonth <= monthLength(year, month);
        }

        static int yearStart(int year) {
            int past = year - FIRST_YEAR;
            return YEAR * past + (past + 3) / 4;
        }

        static int ofDate(int year, int month, int dayOfMonth) {
            int found = yearStart(year) + dayOfMonth - 1;
            for (int before = 1; before < month; before++) {
                found += monthLength(year, before);
            }
            return found;
        }

        static int yearOf(int day) {
            int left = day % FOUR_YEARS;
            int whole = FIRST_YEAR + 4 * (day / FOUR_YEARS);
            return left < LEAP_YEAR ? whole : whole + 1 + (left - LEAP_YEAR) / YEAR;
        }

        static int monthOf(int day) {
            int year = yearOf(day);
            int left = day - yearStart(year);
            int month = 1;
            while (month < MONTHS && left >= monthLength(year, month)) {
                left -= monthLength(year, month);
                month++;
            }
            return month;
        }

        static int dayOfMonth(int day) {
            return day - ofDate(yearOf(day), monthOf(day), 1) + 1;
        }

        /** The same day of the month some months on, or the last one of a month that is too short. */
        static int monthsLater(int day, int months) {
            int passed = monthOf(day) - 1 + months;
            int year = yearOf(day) + passed / MONTHS;
            int month = passed % MONTHS + 1;
            return ofDate(year, month, Math.min(dayOfMonth(day), monthLength(year, month)));
        }

        /** Whether a DAY is behind the same day a year behind another one (of the 29th the 28th). */
        static boolean isYearPast(int from, int day) {
            int left = from % FOUR_YEARS;
            boolean passesLeapDay = left < LEAP_DAY || left >= LEAP_DAY_A_YEAR_OFF;
            return day > from + (passesLeapDay ? LEAP_YEAR : YEAR);
        }

        /** DAY 0 is a Saturday. */
        static int workday(int day) {
            int inWeek = day % WEEK;
            return inWeek == 0 ? day + 2 : inWeek == 1 ? day + 1 : day;
        }
    }

    /** The PRICES of one STOCK, sorted by their DAYS. */
    private static final class PriceRow {
        private int[] days = new int[16];
        private int[] cents = new int[16];
        private int count;

        /** How many PRICES are told for DAYS up to this one. */
        private int upTo(int day) {
            int found = 0;
            while (found < count && days[found] <= day) {
                found++;
            }
            return found;
        }

        int tell(int day, int value) {
            int place = upTo(day);
            if (place > 0 && days[place - 1] == day) {
                cents[place - 1] = value;
                return count;
            }
            if (count == days.length) {
                days = Arrays.copyOf(days, 2 * count);
                cents = Arrays.copyOf(cents, 2 * count);
            }
            for (int i = count; i > place; i--) {
                days[i] = days[i - 1];
                cents[i] = cents[i - 1];
            }
            days[place] = day;
            cents[place] = value;
            count++;
            return count;
        }

        int latest(int day) {
            int found = upTo(day);
            return found == 0 ? NONE : cents[found - 1];
        }
    }

    /** The ORDERS as they were told. */
    private static final class Log {
        final int[] kinds = new int[MOST_ORDERS];
        final int[] days = new int[MOST_ORDERS];
        final int[] stocks = new int[MOST_ORDERS];
        final int[] numbers = new int[MOST_ORDERS * WIDTH];
        int count;

        boolean hasRoom(int more, int day) {
            return count + more <= MOST_ORDERS && (count == 0 || day >= days[count - 1]);
        }

        /** Writes behind the last ORDER, but does not count it: it may turn out not to be done. */
        void write(int kind, int stock, int day, int n0, int n1, int n2, int n3) {
            if (count >= MOST_ORDERS) {
                return;
            }
            kinds[count] = kind;
            days[count] = day;
            stocks[count] = stock;
            int row = count * WIDTH;
            numbers[row] = n0;
            numbers[row + 1] = n1;
            numbers[row + 2] = n2;
            numbers[row + 3] = n3;
        }

        int numberOf(int order, int which) {
            return which < WIDTH ? numbers[order * WIDTH + which] : 0;
        }

        int yearOf(int order) {
            return Days.yearOf(days[order]);
        }

        /** Behind the last ORDER there is nothing yet, so nothing waits: DAY 0 does no harm. */
        int lastDay() {
            return count == 0 ? 0 : days[count - 1];
        }

        int valueOf(int order, int what) {
            switch (what) {
                case 0:
                    return kinds[order];
                case 1:
                    return days[order];
                case 2:
                    return stocks[order];
                default:
                    return numberOf(order, what - 3);
            }
        }

        void copy(Log from) {
            System.arraycopy(from.kinds, 0, kinds, 0, MOST_ORDERS);
            System.arraycopy(from.days, 0, days, 0, MOST_ORDERS);
            System.arraycopy(from.stocks, 0, stocks, 0, MOST_ORDERS);
            System.arraycopy(from.numbers, 0, numbers, 0, MOST_ORDERS * WIDTH);
            count = from.count;
        }

        void drop(int order) {
            for (int i = order; i + 1 < count; i++) {
                kinds[i] = kinds[i + 1];
                days[i] = days[i + 1];
                stocks[i] = stocks[i + 1];
                System.arraycopy(numbers, (i + 1) * WIDTH, numbers, i * WIDTH, WIDTH);
            }
            count--;
        }

        static boolean fits(int kind, int stock, int which, int value) {
            int place = kind * WIDTH + which;
            if (value < FROM[place] || value > TO[place]) {
                return false;
            }
            boolean isOther = (kind == SPIN || kind == MERGER) && which == 0;
            return !isOther || value != stock;
        }
    }

    /** The LOTS of one STOCK, in ORDER OF DAYS. */
    private static final class LotRow {
        final int[] numbers = new int[MOST_LOTS];
        final int[] days = new int[MOST_LOTS];
        final int[] units = new int[MOST_LOTS];
        final int[] free = new int[MOST_LOTS];
        final long[] costs = new long[MOST_LOTS];
        int count;

        int allUnits() {
            int all = 0;
            for (int i = 0; i < count; i++) {
                all += units[i];
            }
            return all;
        }

        long allCost() {
            long all = 0;
            for (int i = 0; i < count; i++) {
                all += costs[i];
            }
            return all;
        }

        int largest() {
            int found = 0;
            for (int i = 0; i < count; i++) {
                found = Math.max(found, units[i]);
            }
            return found;
        }

        int placeOf(int number) {
            for (int i = 0; i < count; i++) {
                if (numbers[i] == number) {
                    return i;
                }
            }
            return NONE;
        }

        private boolean isAhead(int place, int day, int number) {
            return days[place] < day || days[place] == day && numbers[place] < number;
        }

        private void move(int from, int to) {
            numbers[to] = numbers[from];
            days[to] = days[from];
            units[to] = units[from];
            free[to] = free[from];
            costs[to] = costs[from];
        }

        /** Puts a LOT without FREE units in its place, which it answers, or NONE if there is no room. */
        int put(int number, int day, int some, long cost) {
            if (count >= MOST_LOTS) {
                return NONE;
            }
            int place = count;
            while (place > 0 && !isAhead(place - 1, day, number)) {
                move(place - 1, place);
                place--;
            }
            numbers[place] = number;
            days[place] = day;
            units[place] = some;
            free[place] = 0;
            costs[place] = cost;
            count++;
            return place;
        }

        /** What the units of each LOT would be CHANGED to; answers how many LOTS would have some. */
        int turn(int a, int b, int[] turned) {
            long upTo = 0;
            long before = 0;
            int some = 0;
            for (int i = 0; i < count; i++) {
                upTo += units[i];
                long now = share(upTo, a, b);
                turned[i] = (int) (now - before);
                some += turned[i] > 0 ? 1 : 0;
                before = now;
            }
            return some;
        }

        /**
         * LOTS without units go, their COST to the next one, or else to the one ahead; answers the
         * COST for which no LOT is left. (A LOT that was sold has no COST left to pass on.)
         */
        long sweep() {
            int kept = 0;
            long passed = 0;
            for (int i = 0; i < count; i++) {
                passed += costs[i];
                if (units[i] > 0) {
                    move(i, kept);
                    costs[kept] = passed;
                    passed = 0;
                    kept++;
                }
            }
            count = kept;
            if (kept == 0) {
                return passed;
            }
            costs[kept - 1] += passed;
            return 0;
        }

        void freeNone() {
            Arrays.fill(free, 0);
        }

        long valueOf(int place, int what) {
            switch (what) {
                case 0:
                    return numbers[place];
                case 1:
                    return days[place];
                case 2:
                    return units[place];
                case 3:
                    return costs[place];
                default:
                    return free[place];
            }
        }

        boolean isSorted() {
            for (int i = 1; i < count; i++) {
                if (!isAhead(i - 1, days[i], numbers[i])) {
                    return false;
                }
            }
            return true;
        }

        boolean isFilled() {
            for (int i = 0; i < count; i++) {
                if (units[i] < 1 || costs[i] < 0 || free[i] < 0 || free[i] > units[i]) {
                    return false;
                }
            }
            return true;
        }
    }

    /** The PIECES of all SELLS, in the order in which they were sold. */
    private static final class PieceRow {
        private static final int MOST = MOST_ORDERS * MOST_LOTS;
        final int[] lotNumbers = new int[MOST];
        final int[] units = new int[MOST];
        final int[] waiting = new int[MOST];
        final long[] givenUp = new long[MOST];
        final long[] profits = new long[MOST];
        final long[] barred = new long[MOST];
        final boolean[] isLong = new boolean[MOST];
        int count;

        void add(int lotNumber, int some, long gave, long profit, boolean late) {
            if (count >= MOST) {
                return;
            }
            lotNumbers[count] = lotNumber;
            units[count] = some;
            waiting[count] = profit < 0 ? some : 0;
            givenUp[count] = gave;
            profits[count] = profit;
            barred[count] = 0;
            isLong[count] = late;
            count++;
        }

        boolean tookFrom(int lotNumber, int first, int end) {
            for (int i = first; i < end; i++) {
                if (lotNumbers[i] == lotNumber) {
                    return true;
                }
            }
            return false;
        }

        void stopWaiting(int first, int end) {
            for (int i = first; i < end; i++) {
                waiting[i] = 0;
            }
        }
    }

    /** Which units of which LOTS a SELL takes, and what COST they give up. */
    private static final class Pick {
        final int[] places = new int[MOST_LOTS];
        final int[] units = new int[MOST_LOTS];
        final long[] givenUp = new long[MOST_LOTS];
        /** The COST of each LOT by its place, spread anew for MEAN. */
        final long[] costs = new long[MOST_LOTS];
        int count;
        private final int[] setUnits = new int[1 << MOST_LOTS];
        private final long[] setCosts = new long[1 << MOST_LOTS];
        private int turns;
        private long bestCost;
        private int bestSet;
        private int bestLast;

        /** Answers whether the units can be sold; nothing but this choice is changed. */
        boolean choose(LotRow row, int some, int custom, int lotNumber) {
            if (row.allUnits() < some || custom == TOLD && row.placeOf(lotNumber) == NONE) {
                return false;
            }
            System.arraycopy(row.costs, 0, costs, 0, MOST_LOTS);
            inOrderOfDays(row.count);
            switch (custom) {
                case LAST:
                    turnRound();
                    break;
                case DEAREST:
                    sortByCost(row, true);
                    break;
                case CHEAPEST:
                    sortByCost(row, false);
                    break;
                case TOLD:
                    bringToFront(row.placeOf(lotNumber));
                    break;
                case MEAN:
                    spread(row);
                    break;
                case LEAST:
                    findDearestSet(row, some);
                    break;
                default:
                    break;
            }
            take(row, some);
            return true;
        }

        long all() {
            long all = 0;
            for (int i = 0; i < count; i++) {
                all += givenUp[i];
            }
            return all;
        }

        private void inOrderOfDays(int lotCount) {
            turns = lotCount;
            for (int i = 0; i < lotCount; i++) {
                places[i] = i;
            }
        }

        private void turnRound() {
            for (int i = 0; i < turns; i++) {
                places[i] = turns - 1 - i;
            }
        }

        private void bringToFront(int place) {
            for (int i = place; i > 0; i--) {
                places[i] = places[i - 1];
            }
            places[0] = place;
        }

        private void sortByCost(LotRow row, boolean dearestFirst) {
            for (int i = 1; i < turns; i++) {
                int place = places[i];
                int to = i;
                while (to > 0 && isBefore(row, place, places[to - 1], dearestFirst)) {
                    places[to] = places[to - 1];
                    to--;
                }
                places[to] = place;
            }
        }

        /** Compares COST for a unit without a division, so that it is exact. */
        private boolean isBefore(LotRow row, int one, int other, boolean dearestFirst) {
            long ofOne = costs[one] * row.units[other];
            long ofOther = costs[other] * row.units[one];
            return dearestFirst ? ofOne > ofOther : ofOne < ofOther;
        }

        private void spread(LotRow row) {
            long allCost = row.allCost();
            long allUnits = row.allUnits();
            long upTo = 0;
            long before = 0;
            for (int i = 0; i < row.count; i++) {
                upTo += row.units[i];
                long now = share(allCost, upTo, allUnits);
                costs[i] = now - before;
                before = now;
            }
        }

        /** Sets come by rising numbers, and only a better one replaces the best: the least one stays. */
        private void findDearestSet(LotRow row, int some) {
            bestCost = -1;
            bestSet = 0;
            bestLast = 0;
            setUnits[0] = 0;
            setCosts[0] = 0;
            int largest = row.largest();
            for (int i = 0; i < row.count; i++) {
                int bit = 1 << i;
                for (int rest = 0; rest < bit; rest++) {
                    int set = bit + rest;
                    setUnits[set] = setUnits[rest] + row.units[i];
                    setCosts[set] = setCosts[rest] + costs[i];
                    int over = setUnits[set] - some;
                    if (over >= 0 && over < largest) {
                        tryLast(row, set, over);
                    }
                }
            }
            orderOfSet(row.count);
        }

        /** Tries each LOT of the set as the one that keeps the units that are over. */
        private void tryLast(LotRow row, int set, int over) {
            for (int i = 0; i < row.count; i++) {
                long some = row.units[i];
                if ((set >> i & 1) == 1 && some > over && some > 0) {
                    long gave = setCosts[set] - costs[i] + costs[i] * (some - over) / some;
                    if (gave > bestCost) {
                        bestCost = gave;
                        bestSet = set;
                        bestLast = i;
                    }
                }
            }
        }

        private void orderOfSet(int lotCount) {
            turns = 0;
            for (int i = 0; i < lotCount; i++) {
                if ((bestSet >> i & 1) == 1 && i != bestLast) {
                    places[turns] = i;
                    turns++;
                }
            }
            if (turns < MOST_LOTS) {
                places[turns] = bestLast;
                turns++;
            }
        }

        private void take(LotRow row, int some) {
            int left = some;
            count = 0;
            while (count < turns && left > 0) {
                int place = places[count];
                int taken = Math.min(left, row.units[place]);
                units[count] = taken;
                givenUp[count] = share(costs[place], taken, row.units[place]);
                left -= taken;
                count++;
            }
        }
    }

    /** A LOG and all that comes of it. */
    private static final class Books {
        final Log log = new Log();
        final LotRow[] rows = new LotRow[STOCKS];
        final PieceRow sold = new PieceRow();
        final Pick pick;
        /** Of each YEAR first what is not LONG, then what is. */
        final long[] profits = new long[2 * YEARS];
        final long[] incomes = new long[YEARS];
        long cash;
        long parts;
        long barred;
        long bought;
        long givenUp;
        private int nextLot;
        /** Of each ORDER the YEAR, numbered from 0. */
        private final int[] years = new int[MOST_ORDERS];
        private final int[] firstPiece = new int[MOST_ORDERS + 1];
        private final int[] unitsBehind = new int[MOST_ORDERS * STOCKS];
        private final long[] cashBehind = new long[MOST_ORDERS];
        private final int[] turned = new int[MOST_LOTS];

        Books(Pick shared) {
            pick = shared;
            for (int i = 0; i < STOCKS; i++) {
                rows[i] = new LotRow();
            }
        }

        /** Does all ORDERS of the LOG from nothing; false as soon as one can not be done. */
        boolean redo() {
            for (int i = 0; i < STOCKS; i++) {
                rows[i].count = 0;
            }
            sold.count = 0;
            Arrays.fill(profits, 0);
            Arrays.fill(incomes, 0);
            cash = 0;
            parts = 0;
            barred = 0;
            bought = 0;
            givenUp = 0;
            nextLot = 0;
            for (int order = 0; order < log.count; order++) {
                if (!perform(order)) {
                    return false;
                }
            }
            return true;
        }

        /** Does one ORDER behind those ahead of it; one that can not be done changes nothing. */
        boolean perform(int order) {
            firstPiece[order] = sold.count;
            years[order] = log.yearOf(order) - FIRST_YEAR;
            boolean isDone = false;
            switch (log.kinds[order]) {
                case BUY:
                    isDone = doBuy(order);
                    break;
                case SELL:
                    isDone = doSell(order);
                    break;
                case SPLIT:
                    isDone = doSplit(order);
                    break;
                case PAY:
                    isDone = doPay(order);
                    break;
                case AGAIN:
                    isDone = doAgain(order);
                    break;
                case SPIN:
                    isDone = doSpin(order);
                    break;
                case MERGER:
                    isDone = doMerger(order);
                    break;
                default:
                    break;
            }
            if (isDone) {
                record(order);
            }
            return isDone;
        }

        private void record(int order) {
            firstPiece[order + 1] = sold.count;
            cashBehind[order] = cash;
            for (int i = 0; i < STOCKS; i++) {
                unitsBehind[order * STOCKS + i] = rows[i].allUnits();
            }
        }

        private LotRow rowOf(int order) {
            return rows[log.stocks[order]];
        }

        private boolean doBuy(int order) {
            if (rowOf(order).count >= MOST_LOTS) {
                return false;
            }
            int units = log.numberOf(order, 0);
            come(order, units, (long) units * log.numberOf(order, 1) + log.numberOf(order, 2));
            return true;
        }

        private long moneyOf(int order) {
            return (long) rowOf(order).allUnits() * log.numberOf(order, 0);
        }

        private void takeIncome(int order, long money) {
            incomes[years[order]] += money;
            cash += money;
        }

        private boolean doPay(int order) {
            takeIncome(order, moneyOf(order));
            return true;
        }

        private boolean doAgain(int order) {
            LotRow row = rowOf(order);
            int price = log.numberOf(order, 1);
            long money = moneyOf(order);
            long units = share(money, 1, price);
            if (units > 0 && (row.count >= MOST_LOTS || row.allUnits() + units > MOST_UNITS)) {
                return false;
            }
            takeIncome(order, money);
            if (units > 0) {
                come(order, (int) units, units * price);
            }
            return true;
        }

        /** A LOT comes by BUY or AGAIN: losses that still wait are matched with it. */
        private void come(int order, int units, long cost) {
            LotRow row = rowOf(order);
            int place = row.put(nextLot, log.days[order], units, cost);
            if (place == NONE) {
                return;
            }
            row.free[place] = units;
            nextLot++;
            cash -= cost;
            bought += cost;
            for (int sale = 0; sale < order; sale++) {
                if (log.stocks[sale] == log.stocks[order]
                    && log.days[order] - log.days[sale] <= WAITING_DAYS) {
                    for (int i = firstPiece[sale]; i < firstPiece[sale + 1]; i++) {
                        match(sale, i, row, place);
                    }
                }
            }
        }

        private void match(int sale, int piece, LotRow row, int place) {
            int matched = Math.min(sold.waiting[piece], row.free[place]);
            if (matched <= 0) {
                return;
            }
            long part = share(-sold.profits[piece], matched, sold.waiting[piece]);
            sold.waiting[piece] -= matched;
            sold.profits[piece] += part;
            sold.barred[piece] += part;
            barred += part;
            addProfit(sale, sold.isLong[piece], part);
            row.costs[place] += part;
            row.free[place] -= matched;
        }

        private void addProfit(int order, boolean isLong, long more) {
            profits[2 * years[order] + (isLong ? 1 : 0)] += more;
        }

        private boolean doSell(int order) {
            LotRow row = rowOf(order);
            int custom = log.numberOf(order, 2);
            if (!pick.choose(row, log.numberOf(order, 0), custom, log.numberOf(order, 3))) {
                return false;
            }
            System.arraycopy(pick.costs, 0, row.costs, 0, MOST_LOTS);
            for (int i = 0; i < pick.count; i++) {
                sellPiece(order, row, i);
            }
            row.sweep();
            for (int i = firstPiece[order]; i < sold.count; i++) {
                matchWithThere(order, i, row);
            }
            return true;
        }

        private void sellPiece(int order, LotRow row, int picked) {
            int place = pick.places[picked];
            int units = pick.units[picked];
            long gave = pick.givenUp[picked];
            long brought = (long) units * log.numberOf(order, 1);
            boolean isLong = Days.isYearPast(row.days[place], log.days[order]);
            sold.add(row.numbers[place], units, gave, brought - gave, isLong);
            addProfit(order, isLong, brought - gave);
            cash += brought;
            givenUp += gave;
            row.units[place] -= units;
            row.costs[place] -= gave;
            row.free[place] = Math.min(row.free[place], row.units[place]);
        }

        /** Only LOTS that came by BUY or AGAIN ever have FREE units, so that needs no test here. */
        private void matchWithThere(int order, int piece, LotRow row) {
            for (int i = 0; i < row.count; i++) {
                if (row.days[i] >= log.days[order] - WAITING_DAYS
                    && !sold.tookFrom(row.numbers[i], firstPiece[order], sold.count)) {
                    match(order, piece, row, i);
                }
            }
        }

        private boolean doSplit(int order) {
            LotRow row = rowOf(order);
            int a = log.numberOf(order, 0);
            int b = log.numberOf(order, 1);
            if (share(row.allUnits(), a, b) > MOST_UNITS) {
                return false;
            }
            change(order, a, b, log.numberOf(order, 2));
            stopMatching(order, log.stocks[order]);
            return true;
        }

        private void change(int order, int a, int b, int price) {
            LotRow row = rowOf(order);
            long all = (long) row.allUnits() * a;
            long left = all - share(all, 1, b) * b;
            long brought = share(left, price, b);
            parts += brought;
            cash += brought;
            row.turn(a, b, turned);
            System.arraycopy(turned, 0, row.units, 0, row.count);
            addProfit(order, false, -row.sweep());
        }

        private void stopMatching(int order, int stock) {
            rows[stock].freeNone();
            for (int sale = 0; sale < order; sale++) {
                if (log.stocks[sale] == stock) {
                    sold.stopWaiting(firstPiece[sale], firstPiece[sale + 1]);
                }
            }
        }

        /** Whether the other STOCK has room for what its LOTS and units CHANGED come to. */
        private boolean hasRoom(int order, int a, int b) {
            LotRow row = rowOf(order);
            LotRow other = rows[log.numberOf(order, 0)];
            int more = row.turn(a, b, turned);
            return other.count + more <= MOST_LOTS
                && other.allUnits() + share(row.allUnits(), a, b) <= MOST_UNITS;
        }

        private boolean doSpin(int order) {
            LotRow row = rowOf(order);
            int other = log.numberOf(order, 0);
            if (!hasRoom(order, log.numberOf(order, 1), log.numberOf(order, 2))) {
                return false;
            }
            for (int i = 0; i < row.count; i++) {
                if (turned[i] > 0) {
                    long cost = share(row.costs[i], log.numberOf(order, 3), THOUSAND);
                    rows[other].put(nextLot, row.days[i], turned[i], cost);
                    row.costs[i] -= cost;
                    nextLot++;
                }
            }
            stopMatching(order, log.stocks[order]);
            stopMatching(order, other);
            return true;
        }

        private boolean doMerger(int order) {
            LotRow row = rowOf(order);
            int other = log.numberOf(order, 0);
            int a = log.numberOf(order, 1);
            int b = log.numberOf(order, 2);
            if (!hasRoom(order, a, b)) {
                return false;
            }
            change(order, a, b, log.numberOf(order, 3));
            for (int i = 0; i < row.count; i++) {
                rows[other].put(row.numbers[i], row.days[i], row.units[i], row.costs[i]);
            }
            row.count = 0;
            stopMatching(order, log.stocks[order]);
            stopMatching(order, other);
            return true;
        }

        int pieceCount(int order) {
            return firstPiece[order + 1] - firstPiece[order];
        }

        long pieceValue(int order, int place, int what) {
            int i = firstPiece[order] + place;
            switch (what) {
                case 0:
                    return sold.lotNumbers[i];
                case 1:
                    return sold.units[i];
                case 2:
                    return sold.givenUp[i];
                case 3:
                    return sold.profits[i];
                case 4:
                    return sold.isLong[i] ? 1 : 0;
                case 5:
                    return sold.barred[i];
                default:
                    return log.lastDay() - log.days[order] > WAITING_DAYS ? 0 : sold.waiting[i];
            }
        }

        /** The last ORDER of a DAY up to this one, or NONE. */
        int lastOrder(int day) {
            int found = NONE;
            for (int order = 0; order < log.count && log.days[order] <= day; order++) {
                found = order;
            }
            return found;
        }

        int unitsOf(int stock, int order) {
            return order < 0 ? 0 : unitsBehind[order * STOCKS + stock];
        }

        long cashBy(int order) {
            return cashBehind[order] - (order == 0 ? 0 : cashBehind[order - 1]);
        }

        long allCost() {
            long all = 0;
            for (int i = 0; i < STOCKS; i++) {
                all += rows[i].allCost();
            }
            return all;
        }

        long total(int what) {
            switch (what) {
                case 0:
                    return cash;
                case 1:
                    return allCost();
                case 2:
                    return added(profits);
                case 3:
                    return added(incomes);
                case 4:
                    return parts;
                case 5:
                    return barred;
                case 6:
                    return bought;
                default:
                    return givenUp;
            }
        }

        boolean sumsAreSound() {
            return added(profits) + added(incomes) + parts - cash == allCost();
        }

        boolean rowsAreSound() {
            for (int i = 0; i < STOCKS; i++) {
                if (!rows[i].isSorted() || !rows[i].isFilled()) {
                    return false;
                }
            }
            return true;
        }

        boolean piecesAreSound() {
            for (int order = 0; order < log.count; order++) {
                for (int i = firstPiece[order]; i < firstPiece[order + 1]; i++) {
                    long loss = sold.givenUp[i] - (long) sold.units[i] * log.numberOf(order, 1);
                    if (sold.barred[i] > Math.max(0, loss) || loss > 0 && sold.profits[i] > 0) {
                        return false;
                    }
                }
            }
            return true;
        }

        private static long added(long[] row) {
            long all = 0;
            for (int i = 0; i < row.length; i++) {
                all += row[i];
            }
            return all;
        }
    }

    /** The FLOWS AT a DAY, and their worth by a RATE, a great whole number. */
    private static final class FlowRow {
        private static final int MOST = 12;
        private static final int HUNDRED = 100;
        private static final long PRIME = 1000003;
        /** A limb holds four digits to the base 100, so that to multiply by 100s is to move. */
        private static final long LIMB = 100000000;
        private static final int DIGITS = 4;
        private static final long[] HUNDREDS = {1, 100, 10000, 1000000};
        final long[] values = new long[MOST];
        int count;
        /** All but the last are from 0 to LIMB less 1; the last one has the sign. */
        private final long[] limbs = new long[6];

        static boolean holds(int years) {
            return years <= MOST;
        }

        void fill(Books books, int lastOrder, int day, long worthThen) {
            int firstYear = books.log.yearOf(0);
            count = Math.min(MOST, Days.yearOf(day) - firstYear + 1);
            Arrays.fill(values, 0);
            for (int order = 0; order <= lastOrder; order++) {
                int place = books.log.yearOf(order) - firstYear;
                if (place < MOST) {
                    values[place] += books.cashBy(order);
                }
            }
            if (count > 0) {
                values[count - 1] += worthThen;
            }
        }

        int turns() {
            int turns = 0;
            long before = 0;
            for (int i = 0; i < count; i++) {
                if (values[i] != 0) {
                    turns += before != 0 && values[i] < 0 != before < 0 ? 1 : 0;
                    before = values[i];
                }
            }
            return turns;
        }

        private boolean isAllNone() {
            for (int i = 0; i < count; i++) {
                if (values[i] != 0) {
                    return false;
                }
            }
            return true;
        }

        int signBy(int rate) {
            Arrays.fill(limbs, 0);
            for (int i = 0; i < count; i++) {
                multiplyAndAdd(HUNDRED + rate, values[i] * HUNDREDS[i % DIGITS], i / DIGITS);
            }
            int last = limbs.length - 1;
            if (limbs[last] != 0) {
                return limbs[last] < 0 ? -1 : 1;
            }
            for (int i = 0; i < last; i++) {
                if (limbs[i] != 0) {
                    return 1;
                }
            }
            return 0;
        }

        private void multiplyAndAdd(int factor, long more, int toLimb) {
            long carry = 0;
            int last = limbs.length - 1;
            for (int i = 0; i < last; i++) {
                long now = limbs[i] * factor + carry + (i == toLimb ? more : 0);
                carry = Math.floorDiv(now, LIMB);
                limbs[i] = now - carry * LIMB;
            }
            limbs[last] = limbs[last] * factor + carry;
        }

        int restBy(int rate) {
            long found = 0;
            long hundreds = 1;
            for (int i = 0; i < count; i++) {
                long more = Math.floorMod(values[i], PRIME) * hundreds;
                found = (found * (HUNDRED + rate) + more) % PRIME;
                hundreds = hundreds * HUNDRED % PRIME;
            }
            return (int) found;
        }

        /** The TOLD RATE of this number, or one below all RATES. */
        int toldRate(int number) {
            int found = 0;
            int here = isAllNone() ? 2 : signBy(LEAST_RATE);
            for (int rate = LEAST_RATE; rate <= MOST_RATE && here != 2; rate++) {
                int next = rate == MOST_RATE ? 0 : signBy(rate + 1);
                if (here == 0 || here * next < 0) {
                    if (found == number) {
                        return rate;
                    }
                    found++;
                }
                here = next;
            }
            return LEAST_RATE - 1;
        }
    }

    /** The BANDS, and the TRADES that bring worths into them. A set of STOCKS is a number of bits. */
    private static final class Bands {
        private static final int SETS = 1 << STOCKS;
        final int[] least = new int[STOCKS];
        final int[] most = new int[STOCKS];
        final int[] givers = new int[STOCKS];
        final int[] getters = new int[STOCKS];
        final long[] amounts = new long[STOCKS];
        private int count;
        private final long[] from = new long[STOCKS];
        private final long[] to = new long[STOCKS];
        private final long[] held = new long[STOCKS];
        private final long[] wanted = new long[STOCKS];
        /** Into how many groups a set of STOCKS falls, at most; NONE if it does not. */
        private final int[] groups = new int[SETS];

        Bands() {
            Arrays.fill(most, THOUSAND);
        }

        /** Works out the TRADES; answers how many there are, or NONE. */
        int settle(long[] worths) {
            count = 0;
            if (!measure(worths)) {
                return NONE;
            }
            countGroups();
            int left = SETS - 1;
            if (groups[left] == NONE) {
                return NONE;
            }
            for (int turn = 0; turn < STOCKS && left > 0; turn++) {
                int group = firstGroup(left);
                tradeWithin(group);
                left -= group;
            }
            return count;
        }

        /** False if the least of a STOCK, rounded up, is above its most, rounded down. */
        private boolean measure(long[] worths) {
            long all = 0;
            for (int i = 0; i < STOCKS; i++) {
                held[i] = worths[i];
                all += worths[i];
            }
            boolean isAny = true;
            for (int i = 0; i < STOCKS; i++) {
                from[i] = -share(-all, least[i], THOUSAND);
                to[i] = share(all, most[i], THOUSAND);
                isAny = isAny && from[i] <= to[i];
            }
            return isAny;
        }

        private boolean isGroup(int set) {
            long over = 0;
            long under = 0;
            for (int i = 0; i < STOCKS; i++) {
                if ((set >> i & 1) == 1) {
                    over += held[i] - from[i];
                    under += to[i] - held[i];
                }
            }
            return over >= 0 && under >= 0;
        }

        /** A set's groups are counted behind those of all sets with less numbers, which it is made of. */
        private void countGroups() {
            groups[0] = 0;
            for (int set = 1; set < SETS; set++) {
                groups[set] = NONE;
                int lowest = set & -set;
                boolean isWhole = isGroup(set);
                for (int part = lowest; isWhole && part <= set; part++) {
                    if (isPart(part, set, lowest) && groups[set - part] != NONE && isGroup(part)) {
                        groups[set] = Math.max(groups[set], groups[set - part] + 1);
                    }
                }
            }
        }

        private static boolean isPart(int part, int set, int lowest) {
            return (part & set) == part && (part & lowest) != 0;
        }

        /** The group with the least number of the least STOCK, of a way with the most groups. */
        private int firstGroup(int set) {
            int lowest = set & -set;
            for (int part = lowest; part < set; part++) {
                if (isPart(part, set, lowest) && groups[set - part] != NONE
                    && groups[set - part] + 1 == groups[set] && isGroup(part)) {
                    return part;
                }
            }
            return set;
        }

        private void tradeWithin(int group) {
            wish(group);
            for (int turn = 0; turn < STOCKS && count < STOCKS; turn++) {
                int giver = NONE;
                int getter = NONE;
                for (int i = STOCKS - 1; i >= 0; i--) {
                    if ((group >> i & 1) == 1) {
                        giver = held[i] > wanted[i] ? i : giver;
                        getter = held[i] < wanted[i] ? i : getter;
                    }
                }
                if (giver == NONE || getter == NONE) {
                    return;
                }
                long amount = Math.min(held[giver] - wanted[giver], wanted[getter] - held[getter]);
                held[giver] -= amount;
                held[getter] += amount;
                givers[count] = giver;
                getters[count] = getter;
                amounts[count] = amount;
                count++;
            }
        }

        private void wish(int group) {
            long over = 0;
            for (int i = 0; i < STOCKS; i++) {
                over += (group >> i & 1) == 1 ? held[i] - from[i] : 0;
            }
            for (int i = 0; i < STOCKS; i++) {
                if ((group >> i & 1) == 1) {
                    long more = Math.min(over, to[i] - from[i]);
                    wanted[i] = from[i] + more;
                    over -= more;
                }
            }
        }
    }

    private final PriceRow[] priceRows = new PriceRow[STOCKS];
    private Books books;
    /** Where a LOG that is put right is done anew, ahead of its taking the place of the other one. */
    private Books draft;
    private final long[] changes = new long[2 * YEARS];
    private final FlowRow flowRow = new FlowRow();
    private final Bands bands = new Bands();
    private final long[] worths = new long[STOCKS];
    private final int[] planDays = new int[MOST_MONTHS];
    private final int[] planUnits = new int[MOST_MONTHS];

    public Lotfolio() {
        for (int i = 0; i < STOCKS; i++) {
            priceRows[i] = new PriceRow();
        }
        Pick shared = new Pick();
        books = new Books(shared);
        draft = new Books(shared);
    }

    // ---- what all of it uses

    /** A number, times another one, divided by a third one, rounded down. */
    private static long share(long whole, long times, long by) {
        return by <= 0 ? 0 : Math.floorDiv(whole * times, by);
    }

    private static int placeOfYear(int year, boolean isLong) {
        return 2 * (year - FIRST_YEAR) + (isLong ? 1 : 0);
    }

    private static boolean isStock(int stock) {
        return stock >= 0 && stock < STOCKS;
    }

    private static boolean isDay(int day) {
        return day >= 0 && day <= LAST_DAY;
    }

    private static void needStock(int stock) {
        if (!isStock(stock)) {
            throw new IllegalArgumentException("no such stock");
        }
    }

    private static void needDay(int day) {
        if (!isDay(day)) {
            throw new IllegalArgumentException("no such day");
        }
    }

    private static void needYear(int year) {
        needRange(year, FIRST_YEAR, FIRST_YEAR + YEARS - 1);
    }

    private static void needRange(int value, int least, int most) {
        if (value < least || value > most) {
            throw new IllegalArgumentException("out of range");
        }
    }

    private static void needPlace(int place, int count) {
        if (place < 0 || place >= count) {
            throw new IndexOutOfBoundsException("no such place");
        }
    }

    private void needOrder(int order) {
        needPlace(order, books.log.count);
    }

    // ---- days, prices

    public int day(int year, int month, int dayOfMonth) throws DateTimeException, IllegalArgumentException {
        if (!Days.isDate(year, month, dayOfMonth)) {
            throw new DateTimeException("no such date");
        }
        needYear(year);
        int found = Days.ofDate(year, month, dayOfMonth);
        needDay(found);
        return found;
    }

    public int date(int day) throws IllegalArgumentException {
        needDay(day);
        return 10000 * Days.yearOf(day) + 100 * Days.monthOf(day) + Days.dayOfMonth(day);
    }

    public int price(int stock, int day, int cents) throws IllegalArgumentException {
        needStock(stock);
        needDay(day);
        needRange(cents, 0, MOST_CENTS);
        return priceRows[stock].tell(day, cents);
    }

    public int priceAt(int stock, int day) throws IllegalArgumentException, NoSuchElementException {
        needStock(stock);
        needDay(day);
        return needPrice(stock, day);
    }

    private int needPrice(int stock, int day) {
        int found = priceRows[stock].latest(day);
        if (found == NONE) {
            throw new NoSuchElementException("no price is told");
        }
        return found;
    }

    // ---- orders

    public int buy(int stock, int day, int units, int price, int fee)
        throws IllegalArgumentException, IllegalStateException {
        return tell(BUY, stock, day, units, price, fee, 0);
    }

    public int sell(int stock, int day, int units, int price, int custom, int lot)
        throws IllegalArgumentException, IllegalStateException {
        return tell(SELL, stock, day, units, price, custom, lot);
    }

    public int split(int stock, int day, int a, int b, int price)
        throws IllegalArgumentException, IllegalStateException {
        return tell(SPLIT, stock, day, a, b, price, 0);
    }

    public int pay(int stock, int day, int cents) throws IllegalArgumentException, IllegalStateException {
        return tell(PAY, stock, day, cents, 0, 0, 0);
    }

    public int again(int stock, int day, int cents, int price)
        throws IllegalArgumentException, IllegalStateException {
        return tell(AGAIN, stock, day, cents, price, 0, 0);
    }

    public int spin(int stock, int day, int other, int a, int b, int part)
        throws IllegalArgumentException, IllegalStateException {
        return tell(SPIN, stock, day, other, a, b, part);
    }

    public int merge(int stock, int day, int other, int a, int b, int price)
        throws IllegalArgumentException, IllegalStateException {
        return tell(MERGER, stock, day, other, a, b, price);
    }

    private int tell(int kind, int stock, int day, int n0, int n1, int n2, int n3) {
        needStock(stock);
        needDay(day);
        if (!Log.fits(kind, stock, 0, n0) || !Log.fits(kind, stock, 1, n1)
            || !Log.fits(kind, stock, 2, n2) || !Log.fits(kind, stock, 3, n3)) {
            throw new IllegalArgumentException("a number is out of range");
        }
        Log log = books.log;
        if (!log.hasRoom(1, day)) {
            throw new IllegalStateException("no order can be told for that day");
        }
        log.write(kind, stock, day, n0, n1, n2, n3);
        if (!books.perform(log.count)) {
            throw new IllegalStateException("the order can not be done");
        }
        log.count++;
        return log.count - 1;
    }

    public int plan(int stock, int day, int months, int money)
        throws IllegalArgumentException, IllegalStateException {
        needStock(stock);
        needDay(day);
        needRange(months, 1, MOST_MONTHS);
        needRange(money, 1, MOST_MONEY);
        for (int i = 0; i < months; i++) {
            planDays[i] = Days.workday(Days.monthsLater(day, i));
            needDay(planDays[i]);
        }
        int count = findBuys(stock, months, money);
        if (count == 0) {
            return 0;
        }
        if (!books.log.hasRoom(count, planDays[0]) || books.rows[stock].count + count > MOST_LOTS) {
            throw new IllegalStateException("a buy can not be told");
        }
        for (int i = 0; i < count; i++) {
            tell(BUY, stock, planDays[i], planUnits[i], planPrice(stock, planDays[i]), 0, 0);
        }
        return count;
    }

    /** Works out the units by MONTH; only those of which some are bought stay, with their DAYS. */
    private int findBuys(int stock, int months, int money) {
        int count = 0;
        for (int i = 0; i < months; i++) {
            long units = share(money, 1, planPrice(stock, planDays[i]));
            if (units >= FROM[BUY] && units <= TO[BUY]) {
                planDays[count] = planDays[i];
                planUnits[count] = (int) units;
                count++;
            }
        }
        return count;
    }

    private int planPrice(int stock, int day) {
        int found = priceRows[stock].latest(day);
        if (found <= 0) {
            throw new IllegalStateException("no price that pays for units is told");
        }
        return found;
    }

    public int correct(int order, int which, int value) throws IndexOutOfBoundsException, IllegalStateException {
        needOrder(order);
        Log log = books.log;
        int kind = log.kinds[order];
        needPlace(which, NUMBERS_OF_KIND[kind]);
        if (!Log.fits(kind, log.stocks[order], which, value)) {
            throw new IllegalStateException("the number would be out of range");
        }
        int before = log.numberOf(order, which);
        draft.log.copy(log);
        draft.log.numbers[order * WIDTH + which] = value;
        if (!draft.redo()) {
            throw new IllegalStateException("an order could not be done");
        }
        takeDraft();
        return before;
    }

    public int strike(int order) throws IndexOutOfBoundsException, IllegalStateException {
        needOrder(order);
        draft.log.copy(books.log);
        draft.log.drop(order);
        if (!draft.redo()) {
            throw new IllegalStateException("an order could not be done");
        }
        takeDraft();
        return books.log.count;
    }

    private void takeDraft() {
        for (int i = 0; i < changes.length; i++) {
            changes[i] = draft.profits[i] - books.profits[i];
        }
        Books old = books;
        books = draft;
        draft = old;
    }

    public long changed(int year, boolean isLong) throws IllegalArgumentException {
        needYear(year);
        return changes[placeOfYear(year, isLong)];
    }

    public int orders() {
        return books.log.count;
    }

    public int order(int order, int what) throws IndexOutOfBoundsException, IllegalArgumentException {
        needOrder(order);
        needRange(what, 0, 2 + ALL_NUMBERS);
        return books.log.valueOf(order, what);
    }

    // ---- lots, pieces

    public int lots(int stock) throws IllegalArgumentException {
        needStock(stock);
        return books.rows[stock].count;
    }

    public long lot(int stock, int place, int what) throws IllegalArgumentException, IndexOutOfBoundsException {
        needStock(stock);
        needRange(what, 0, 4);
        needPlace(place, books.rows[stock].count);
        return books.rows[stock].valueOf(place, what);
    }

    public int pieces(int order) throws IndexOutOfBoundsException {
        needOrder(order);
        return books.pieceCount(order);
    }

    public long piece(int order, int place, int what) throws IndexOutOfBoundsException, IllegalArgumentException {
        needOrder(order);
        needPlace(place, books.pieceCount(order));
        needRange(what, 0, 6);
        return books.pieceValue(order, place, what);
    }

    public long given(int stock, int units, int custom, int lot)
        throws IllegalArgumentException, IllegalStateException {
        needStock(stock);
        if (!Log.fits(SELL, stock, 0, units) || !Log.fits(SELL, stock, 2, custom)
            || !Log.fits(SELL, stock, 3, lot)) {
            throw new IllegalArgumentException("a number is out of range");
        }
        if (!books.pick.choose(books.rows[stock], units, custom, lot)) {
            throw new IllegalStateException("these units can not be sold");
        }
        return books.pick.all();
    }

    public long mean(int stock) throws IllegalArgumentException, ArithmeticException {
        needStock(stock);
        int units = books.rows[stock].allUnits();
        if (units == 0) {
            throw new ArithmeticException("the stock has no units");
        }
        return share(books.rows[stock].allCost(), 1, units);
    }

    public long sum(int what) throws IllegalArgumentException {
        needRange(what, 0, 7);
        return books.total(what);
    }

    public long gains(int year, boolean isLong) throws IllegalArgumentException {
        needYear(year);
        return books.profits[placeOfYear(year, isLong)];
    }

    public long income(int year) throws IllegalArgumentException {
        needYear(year);
        return books.incomes[year - FIRST_YEAR];
    }

    // ---- worth, rates

    public int unitsAt(int stock, int day) throws IllegalArgumentException {
        needStock(stock);
        needDay(day);
        return books.unitsOf(stock, books.lastOrder(day));
    }

    public long worth(int day) throws IllegalArgumentException, NoSuchElementException {
        needDay(day);
        return weigh(day);
    }

    /** Works out what each STOCK is worth AT the DAY, and answers all of it. */
    private long weigh(int day) {
        int order = books.lastOrder(day);
        long all = 0;
        for (int i = 0; i < STOCKS; i++) {
            int units = books.unitsOf(i, order);
            worths[i] = units == 0 ? 0 : (long) units * needPrice(i, day);
            all += worths[i];
        }
        return all;
    }

    private void findFlows(int day) {
        needDay(day);
        int order = books.lastOrder(day);
        if (order == NONE) {
            throw new IllegalStateException("no order up to that day");
        }
        if (!FlowRow.holds(Days.yearOf(day) - books.log.yearOf(0) + 1)) {
            throw new IllegalStateException("too many flows");
        }
        flowRow.fill(books, order, day, weigh(day));
    }

    public int flows(int day) throws IllegalArgumentException, IllegalStateException, NoSuchElementException {
        findFlows(day);
        return flowRow.count;
    }

    public long flow(int day, int i)
        throws IllegalArgumentException, IllegalStateException, NoSuchElementException, IndexOutOfBoundsException {
        findFlows(day);
        needPlace(i, flowRow.count);
        return flowRow.values[i];
    }

    public int turnings(int day) throws IllegalArgumentException, IllegalStateException, NoSuchElementException {
        findFlows(day);
        return flowRow.turns();
    }

    public int sign(int day, int rate)
        throws IllegalArgumentException, IllegalStateException, NoSuchElementException {
        needRange(rate, LEAST_RATE, MOST_RATE);
        findFlows(day);
        return flowRow.signBy(rate);
    }

    public int rest(int day, int rate)
        throws IllegalArgumentException, IllegalStateException, NoSuchElementException {
        needRange(rate, LEAST_RATE, MOST_RATE);
        findFlows(day);
        return flowRow.restBy(rate);
    }

    public int inner(int day, int i)
        throws IllegalArgumentException, IllegalStateException, NoSuchElementException, IndexOutOfBoundsException {
        findFlows(day);
        if (i < 0) {
            throw new IndexOutOfBoundsException("no such rate");
        }
        return flowRow.toldRate(i);
    }

    // ---- bands, trades

    public void band(int stock, int least, int most) throws IllegalArgumentException {
        needStock(stock);
        needRange(least, 0, THOUSAND);
        needRange(most, least, THOUSAND);
        bands.least[stock] = least;
        bands.most[stock] = most;
    }

    public int fewest(int day) throws IllegalArgumentException, NoSuchElementException {
        needDay(day);
        weigh(day);
        return bands.settle(worths);
    }

    public long trade(int day, int i, int what)
        throws IllegalArgumentException, NoSuchElementException, IndexOutOfBoundsException {
        needDay(day);
        needRange(what, 0, 2);
        weigh(day);
        needPlace(i, bands.settle(worths));
        return what == 0 ? bands.givers[i] : what == 1 ? bands.getters[i] : bands.amounts[i];
    }

    // ---- all

    private static int mix(int digest, long value) {
        return (int) ((257L * digest + Math.floorMod(value, 65521L)) % 65521);
    }

    public int digest() {
        int h = 7;
        for (int order = 0; order < books.log.count; order++) {
            for (int what = 0; what < 3 + ALL_NUMBERS; what++) {
                h = mix(h, books.log.valueOf(order, what));
            }
            for (int place = 0; place < books.pieceCount(order); place++) {
                for (int what = 0; what < 7; what++) {
                    h = mix(h, books.pieceValue(order, place, what));
                }
            }
        }
        h = mixLots(h);
        for (int what = 0; what < 8; what++) {
            h = mix(h, books.total(what));
        }
        for (int i = 0; i < YEARS; i++) {
            h = mix(h, books.profits[2 * i]);
            h = mix(h, books.profits[2 * i + 1]);
            h = mix(h, books.incomes[i]);
        }
        return h;
    }

    private int mixLots(int digest) {
        int h = digest;
        for (int stock = 0; stock < STOCKS; stock++) {
            for (int place = 0; place < books.rows[stock].count; place++) {
                for (int what = 0; what < 5; what++) {
                    h = mix(h, books.rows[stock].valueOf(place, what));
                }
            }
        }
        return h;
    }

    public boolean isSound(int part) throws IllegalArgumentException {
        needRange(part, 0, 3);
        boolean sums = part > 1 || books.sumsAreSound();
        boolean rows = part != 0 && part != 2 || books.rowsAreSound();
        boolean pieces = part != 0 && part != 3 || books.piecesAreSound();
        return sums && rows && pieces;
    }
}
