import java.util.Arrays;
import java.util.NoSuchElementException;

/** Routes payments through accounts abroad; the numbered promises of DOC.md say what each call does. */
public final class AbroadRouter {
    public static final int NONE = -1;

    private static final int LAST = 575_999;
    private static final int DAY = 1_440;
    private static final int LAST_HOUR = 1_439;
    private static final int LAST_DAY = 399;
    private static final int MOST_PLACES = 6;
    private static final int MOST_HOLIDAYS = 40;
    private static final int MOST_BANKS = 16;
    private static final int MOST_ACCOUNTS = 48;
    private static final int MOST_PAYMENTS = 64;
    private static final int MOST_HOPS = 5;
    private static final int MOST_LAG = 5;
    private static final int MOST_AMOUNT = 1_000_000;
    private static final int MOST_MOVED = 9_999_999;
    private static final int MOST_BALANCE = 999_999_999;
    private static final int MOST_FEE = 99_999;
    private static final int MOST_GO = 20_160;
    private static final int NEVER = 2_147_483_647;

    private static final int BOOKED = 0;
    private static final int PAID = 1;
    private static final int RETURNING = 2;
    private static final int RETURNED = 3;

    private static final int LINE_LEFT = 0;
    private static final int LINE_BACK = 1;
    private static final int LINE_FUND = 2;
    private static final int LINE_DRAW = 3;

    private final Net net;
    private final Book book;
    private final Quest asked;
    private final Quest guess;
    private final Sweep sweep;
    private final Chains chains;
    private final Legs way;
    private boolean hasAsk;
    /** Whether chains holds the ROUTES of the ASK by all as it is now. */
    private boolean fresh;
    private int missed;
    private int misfits;

    public AbroadRouter() {
        net = new Net();
        book = new Book(net);
        asked = new Quest(net);
        guess = new Quest(net);
        sweep = new Sweep(net);
        chains = new Chains(net);
        way = new Legs();
    }

    // ---- what makes and changes ----

    public int place(int offset, int off, int opens, int shuts) throws IllegalArgumentException {
        mustFit(within(offset, -720, 840) && within(off, 0, 126));
        mustFit(within(opens, 0, LAST_HOUR - 1) && within(shuts, opens + 1, LAST_HOUR));
        return net.addPlace(offset, off, opens, shuts);
    }

    public int holiday(int place, int day) throws NoSuchElementException, IllegalArgumentException {
        Place at = placeAt(place);
        mustFit(within(day, 0, LAST_DAY));
        if (!at.worksOn(day) || day <= at.dayAt(net.now)) {
            return 0;
        }
        if (at.holidays >= MOST_HOLIDAYS) {
            return NONE;
        }
        at.rest(day);
        book.layAllAnew();
        fresh = false;
        return 1;
    }

    public int bank(int place) throws NoSuchElementException {
        placeAt(place);
        return net.addBank(place);
    }

    public int account(int from, int to, int cut, int lag, int ready)
            throws NoSuchElementException, IllegalArgumentException {
        mustBeBank(from);
        mustBeBank(to);
        mustFit(from != to && within(cut, 0, LAST_HOUR) && within(lag, 0, MOST_LAG) && within(ready, 0, LAST_HOUR));
        fresh = false;
        return net.addAccount(from, to, cut, lag, ready);
    }

    public int terms(int account, int fix, int rate, int least, int most)
            throws NoSuchElementException, IllegalArgumentException {
        Account by = accountAt(account);
        mustFit(within(fix, 0, 9_999) && within(rate, 0, 100));
        mustFit(within(least, 0, MOST_FEE) && within(most, least, MOST_FEE));
        by.fees.set(fix, rate, least, most);
        fresh = false;
        return by.fees.of(1_000);
    }

    public int limits(int account, int limit, int daily) throws NoSuchElementException, IllegalArgumentException {
        Account by = accountAt(account);
        mustFit(within(limit, 0, MOST_AMOUNT) && within(daily, 0, MOST_MOVED));
        by.limit = limit;
        by.daily = daily;
        fresh = false;
        return Long.bitCount(book.waitingBy(account));
    }

    public int fund(int account, int amount) throws NoSuchElementException, IllegalArgumentException {
        Account by = accountAt(account);
        mustFit(within(amount, 1, MOST_MOVED));
        if (by.balance > MOST_BALANCE - amount) {
            return NONE;
        }
        by.balance += amount;
        by.ledger.write(net.now, LINE_FUND, amount, by.balance, NONE);
        fresh = false;
        return by.balance;
    }

    public int draw(int account, int amount) throws NoSuchElementException, IllegalArgumentException {
        Account by = accountAt(account);
        mustFit(within(amount, 1, MOST_MOVED));
        if (by.free() < amount) {
            return NONE;
        }
        by.balance -= amount;
        by.ledger.write(net.now, LINE_DRAW, amount, by.balance, NONE);
        fresh = false;
        return by.balance;
    }

    public boolean shut(int account, boolean is) throws NoSuchElementException {
        Account by = accountAt(account);
        boolean was = by.isShut;
        by.isShut = is;
        fresh = false;
        return was;
    }

    public int go(int minutes) throws IllegalArgumentException {
        mustFit(within(minutes, 1, MOST_GO));
        if (net.now > LAST - minutes) {
            return NONE;
        }
        net.now += minutes;
        fresh = false;
        return book.happenUpTo(net.now);
    }

    // ---- the ASK, its ROUTES, PAYMENTS ----

    public int ask(int from, int to, int amount, int minute) throws NoSuchElementException, IllegalArgumentException {
        mustBeBank(from);
        mustBeBank(to);
        mustFit(from != to && within(amount, 1, MOST_AMOUNT) && isMinute(minute));
        asked.set(from, to, amount, minute);
        hasAsk = true;
        fresh = false;
        routeOrNone(0);
        return chains.size();
    }

    public int route(int k, int what) throws NoSuchElementException, IllegalArgumentException {
        mustExist(hasAsk);
        int label = routeOrNone(k);
        mustExist(label != NONE);
        mustFit(within(what, 0, 2));
        switch (what) {
            case 0: return chains.time[label];
            case 1: return chains.fees[label];
            default: return chains.lengthOf(label);
        }
    }

    public int step(int k, int i, int what) throws NoSuchElementException, IllegalArgumentException {
        mustExist(hasAsk);
        int label = routeOrNone(k);
        mustExist(label != NONE);
        chains.trace(label, way);
        mustExist(within(i, 0, way.count - 1));
        mustFit(within(what, 0, 4));
        switch (what) {
            case 0: return way.by[i];
            case 1: return way.leave[i];
            case 2: return way.arrive[i];
            case 3: return way.fee[i];
            default: return slackAt(i);
        }
    }

    public int pay(int k) throws NoSuchElementException {
        mustExist(hasAsk);
        int label = routeOrNone(k);
        mustExist(label != NONE);
        if (book.count >= MOST_PAYMENTS) {
            return -1;
        }
        if (asked.minute < net.now) {
            return -2;
        }
        chains.trace(label, way);
        fresh = false;
        return book.enter(asked, way);
    }

    public int refuse(int payment) throws NoSuchElementException {
        Payment paid = paymentAt(payment);
        if (paid.state != BOOKED) {
            return 0;
        }
        book.turnBack(paid);
        fresh = false;
        return 1;
    }

    public int reroute(int payment) throws NoSuchElementException {
        Payment paid = paymentAt(payment);
        if (paid.state != BOOKED || paid.left >= paid.legs.count) {
            return NONE;
        }
        fresh = false;
        book.holdRest(paid, -1);
        int sooner = soonerWay(paid);
        if (sooner > 0) {
            paid.legs.replaceFrom(paid.left, way);
        }
        book.holdRest(paid, 1);
        return sooner;
    }

    // ---- what stands ----

    public int told(int what) throws IllegalArgumentException {
        mustFit(within(what, 0, 9));
        switch (what) {
            case 0: return net.now;
            case 1: return net.placeCount;
            case 2: return net.bankCount;
            case 3: return net.accountCount;
            case 4: return book.count;
            case 9: return book.nextMinute();
            default: return book.countIn(what - 5);
        }
    }

    public int placeOf(int place, int what) throws NoSuchElementException, IllegalArgumentException {
        Place at = placeAt(place);
        mustFit(within(what, 0, 7));
        switch (what) {
            case 0: return at.offset;
            case 1: return at.off;
            case 2: return at.opens;
            case 3: return at.shuts;
            case 4: return at.holidays;
            case 5: return at.dayAt(net.now);
            case 6: return at.hourAt(net.now);
            default: return at.isOpen(net.now) ? 1 : 0;
        }
    }

    public int accountOf(int account, int what) throws NoSuchElementException, IllegalArgumentException {
        Account by = accountAt(account);
        mustFit(within(what, 0, 12));
        switch (what) {
            case 0: return by.from;
            case 1: return by.to;
            case 2: return by.balance;
            case 3: return by.held;
            case 4: return by.free();
            case 5: return by.isShut ? 1 : 0;
            case 6: return by.cut;
            case 7: return by.lag;
            case 8: return by.ready;
            case 9: return by.limit;
            case 10: return by.daily;
            case 11: return by.leftCount;
            default: return by.backCount;
        }
    }

    public int payment(int payment, int what) throws NoSuchElementException, IllegalArgumentException {
        Payment paid = paymentAt(payment);
        mustFit(within(what, 0, 8));
        switch (what) {
            case 0: return paid.state;
            case 1: return paid.amount;
            case 2: return paid.legs.feesTogether();
            case 3: return paid.legs.count;
            case 4: return paid.left;
            case 5: return paid.back;
            case 6: return paid.legs.end();
            case 7: return book.whereIs(paid);
            default: return paid.nextMinute();
        }
    }

    public int leg(int payment, int hop, int what) throws NoSuchElementException, IllegalArgumentException {
        Payment paid = paymentAt(payment);
        mustExist(within(hop, 0, paid.legs.count - 1));
        mustFit(within(what, 0, 6));
        switch (what) {
            case 0: return paid.legs.by[hop];
            case 1: return paid.legs.leave[hop];
            case 2: return paid.legs.arrive[hop];
            case 3: return hop < paid.left ? 1 : 0;
            case 4: return paid.backAt[hop];
            case 5: return paid.isBack(hop) ? 1 : 0;
            default: return paid.legs.fee[hop];
        }
    }

    public int used(int account, int day) throws NoSuchElementException, IllegalArgumentException {
        Account by = accountAt(account);
        mustFit(within(day, 0, LAST_DAY));
        return by.usedOn(day);
    }

    public int fee(int account, int amount) throws NoSuchElementException, IllegalArgumentException {
        Account by = accountAt(account);
        mustFit(within(amount, 1, MOST_AMOUNT));
        return by.fees.of(amount);
    }

    public boolean open(int place, int minute) throws NoSuchElementException, IllegalArgumentException {
        Place at = placeAt(place);
        mustFit(isMinute(minute));
        return at.isOpen(minute);
    }

    public int next(int place, int minute) throws NoSuchElementException, IllegalArgumentException {
        Place at = placeAt(place);
        mustFit(isMinute(minute));
        return at.firstOpen(minute, LAST);
    }

    public int after(int place, int day, int n) throws NoSuchElementException, IllegalArgumentException {
        Place at = placeAt(place);
        mustFit(within(day, 0, LAST_DAY) && within(n, 0, 20));
        return at.workdayBehind(day, n);
    }

    public int idle(int place, int day) throws NoSuchElementException, IllegalArgumentException {
        Place at = placeAt(place);
        mustFit(within(day, 0, LAST_DAY));
        return at.workdayBehind(day - 1, 1) - day;
    }

    public int hours(int account, int day) throws NoSuchElementException, IllegalArgumentException {
        Account by = accountAt(account);
        mustFit(within(day, 0, LAST_DAY));
        return by.minutesOn(day);
    }

    public int busiest(int account, int what) throws NoSuchElementException, IllegalArgumentException {
        Account by = accountAt(account);
        mustFit(within(what, 0, 1));
        int day = by.busiestDay();
        if (what == 0) {
            return day;
        }
        return day == NONE ? 0 : by.usedOn(day);
    }

    public long tied(int account) throws NoSuchElementException {
        accountAt(account);
        return book.waitingBy(account);
    }

    public int line(int account, int k, int what) throws NoSuchElementException, IllegalArgumentException {
        Account by = accountAt(account);
        mustExist(by.ledger.has(k));
        mustFit(within(what, 0, 4));
        return by.ledger.read(k, what);
    }

    public int forecast(int account, int minute) throws NoSuchElementException, IllegalArgumentException {
        accountAt(account);
        mustFit(within(minute, net.now, LAST));
        return book.balanceAt(account, minute);
    }

    public int lowest(int account, int what) throws NoSuchElementException, IllegalArgumentException {
        accountAt(account);
        mustFit(within(what, 0, 1));
        int minute = book.lowestMinute(account);
        if (what == 1) {
            return minute == NONE ? net.now : minute;
        }
        return minute == NONE ? net.accounts[account].balance : book.balanceAt(account, minute);
    }

    public int late(int payment) throws NoSuchElementException {
        Payment paid = paymentAt(payment);
        return paid.legs.end() - paid.bookedEnd;
    }

    public int leaves(int account, int minute, int amount) throws NoSuchElementException, IllegalArgumentException {
        Account by = accountAt(account);
        mustFit(isMinute(minute) && within(amount, 1, MOST_AMOUNT));
        return by.leaveFrom(minute, amount);
    }

    public int arrives(int account, int minute, int amount) throws NoSuchElementException, IllegalArgumentException {
        Account by = accountAt(account);
        mustFit(isMinute(minute) && within(amount, 1, MOST_AMOUNT));
        int leave = by.leaveFrom(minute, amount);
        return leave == NONE ? NONE : by.arrivalOf(leave);
    }

    // ---- what could be ----

    public int reach(int from, int amount, int minute) throws NoSuchElementException, IllegalArgumentException {
        mustBeBank(from);
        mustFit(within(amount, 1, MOST_AMOUNT) && isMinute(minute));
        guess.set(from, NONE, amount, minute);
        sweep.forward(guess);
        int bits = 0;
        for (int bank = 0; bank < net.bankCount; bank++) {
            if (bank != from && sweep.endAt(bank) != NEVER) {
                bits |= 1 << bank;
            }
        }
        return bits;
    }

    public int cheapest(int minute) throws IllegalArgumentException {
        mustFit(hasAsk && isMinute(minute));
        routeOrNone(0);
        return chains.leastFeesBy(minute);
    }

    public int latest(int minute) throws IllegalArgumentException {
        mustFit(hasAsk && isMinute(minute));
        return sweep.backward(asked, minute);
    }

    public int most(int minute) throws IllegalArgumentException {
        mustFit(hasAsk && isMinute(minute));
        int can = 0;
        int cannot = MOST_AMOUNT + 1;
        // An amount that can go in time leaves every smaller one able to: the search may halve.
        for (int i = 0; i < 32 && cannot - can > 1; i++) {
            int amount = (can + cannot) / 2;
            guess.set(asked.from, asked.to, amount, asked.minute);
            sweep.forward(guess);
            if (sweep.endAt(asked.to) <= minute) {
                can = amount;
            } else {
                cannot = amount;
            }
        }
        return can;
    }

    public int bars(int account) throws NoSuchElementException, IllegalArgumentException {
        Account by = accountAt(account);
        mustFit(hasAsk);
        if (by.isShut) {
            return 1;
        }
        if (by.free() < asked.amount + by.fees.of(asked.amount)) {
            return 2;
        }
        if (asked.amount > by.limit) {
            return 3;
        }
        int leave = by.leaveFrom(asked.minute, asked.amount);
        if (leave == NONE) {
            return 4;
        }
        return by.arrivalOf(leave) == NONE ? 5 : 0;
    }

    public int soonest(int bank) throws NoSuchElementException, IllegalArgumentException {
        mustBeBank(bank);
        mustFit(hasAsk);
        if (bank == asked.from) {
            return NONE;
        }
        sweep.forward(asked);
        return orNone(sweep.endAt(bank));
    }

    public int fewest(int minute) throws IllegalArgumentException {
        mustFit(hasAsk && isMinute(minute));
        sweep.forward(asked);
        for (int hops = 1; hops <= MOST_HOPS; hops++) {
            if (sweep.ends[hops][asked.to] <= minute) {
                return hops;
            }
        }
        return NONE;
    }

    public int delay(int account) throws NoSuchElementException, IllegalArgumentException {
        accountAt(account);
        mustFit(hasAsk);
        int then = endWithout(account);
        if (then == NEVER) {
            return NONE;
        }
        sweep.forward(asked);
        return then - sweep.endAt(asked.to);
    }

    public long bankOf(int bank, int what) throws NoSuchElementException, IllegalArgumentException {
        mustBeBank(bank);
        mustFit(within(what, 0, 4));
        if (what == 0) {
            return net.bankPlace[bank];
        }
        long sum = 0;
        for (int i = 0; i < net.accountCount; i++) {
            sum += partOf(net.accounts[i], bank, what);
        }
        return sum;
    }

    public long shared(int payment, int other) throws NoSuchElementException {
        Payment one = paymentAt(payment);
        Payment two = paymentAt(other);
        return one.legs.accounts() & two.legs.accounts();
    }

    public long tiedUp(int payment) throws NoSuchElementException {
        return paymentAt(payment).heldTogether();
    }

    public int days(int place, int from, int to) throws NoSuchElementException, IllegalArgumentException {
        Place at = placeAt(place);
        mustFit(within(from, 0, LAST_DAY) && within(to, from, LAST_DAY));
        int count = 0;
        for (int day = from; day <= to; day++) {
            if (at.worksOn(day)) {
                count++;
            }
        }
        return count;
    }

    public int until(int minute) throws IllegalArgumentException {
        mustFit(within(minute, net.now, LAST));
        return book.countUpTo(minute);
    }

    public long due(int bank, int day) throws NoSuchElementException, IllegalArgumentException {
        mustBeBank(bank);
        mustFit(within(day, 0, LAST_DAY));
        return book.dueAt(bank, day);
    }

    public int needs(int account, int minute) throws NoSuchElementException, IllegalArgumentException {
        Account by = accountAt(account);
        mustFit(hasAsk && isMinute(minute));
        sweep.forward(asked);
        if (sweep.endAt(asked.to) <= minute) {
            return 0;
        }
        guess.set(asked.from, asked.to, asked.amount, asked.minute);
        guess.funded = account;
        sweep.forward(guess);
        if (sweep.endAt(asked.to) > minute) {
            return NONE;
        }
        return asked.amount + by.fees.of(asked.amount) - by.free();
    }

    public int without(int account) throws NoSuchElementException, IllegalArgumentException {
        accountAt(account);
        mustFit(hasAsk);
        guess.set(asked.from, asked.to, asked.amount, asked.minute);
        guess.barred = account;
        fresh = false;
        chains.search(guess);
        return chains.size();
    }

    public long vital() throws IllegalArgumentException {
        mustFit(hasAsk);
        int label = routeOrNone(0);
        if (label == NONE) {
            return 0;
        }
        // What every CHAIN goes by is in any one of them.
        chains.trace(label, way);
        long bits = 0;
        for (int i = 0; i < way.count; i++) {
            if (endWithout(way.by[i]) == NEVER) {
                bits |= 1L << way.by[i];
            }
        }
        return bits;
    }

    public int status(int what) {
        if (what == 0) {
            return missed;
        }
        return what == 1 ? misfits : NONE;
    }

    // ---- help for the calls above ----

    private void mustExist(boolean is) {
        if (!is) {
            missed++;
            throw new NoSuchElementException("no such thing");
        }
    }

    private void mustFit(boolean is) {
        if (!is) {
            misfits++;
            throw new IllegalArgumentException("another argument");
        }
    }

    private Place placeAt(int place) {
        mustExist(within(place, 0, net.placeCount - 1));
        return net.places[place];
    }

    private void mustBeBank(int bank) {
        mustExist(within(bank, 0, net.bankCount - 1));
    }

    private Account accountAt(int account) {
        mustExist(within(account, 0, net.accountCount - 1));
        return net.accounts[account];
    }

    private Payment paymentAt(int payment) {
        mustExist(within(payment, 0, book.count - 1));
        return book.payments[payment];
    }

    /** The label of ROUTE k of the ASK, by all as it is now; only asked where there is an ASK. */
    private int routeOrNone(int k) {
        if (!fresh) {
            chains.search(asked);
            fresh = true;
        }
        return chains.labelOf(k);
    }

    /** How much later than it does one could come to the BANK of HOP i of the way, END staying. */
    private int slackAt(int i) {
        int came = i == 0 ? asked.minute : way.arrive[i - 1];
        int by = way.end();
        for (int hop = way.count - 1; hop >= i; hop--) {
            by = net.accounts[way.by[hop]].leaveBy(came, by, asked.amount);
        }
        return by - came;
    }

    /** Leaves in the way the best CHAIN for the rest of a PAYMENT; how much sooner it comes, or 0. */
    private int soonerWay(Payment paid) {
        guess.set(book.whereIs(paid), paid.last, paid.amount, Math.max(net.now, paid.restFrom()));
        guess.hops = MOST_HOPS - paid.left;
        guess.closed = book.banksSeen(paid);
        chains.search(guess);
        int label = chains.labelOf(0);
        if (label == NONE || chains.time[label] >= paid.legs.end()) {
            return 0;
        }
        chains.trace(label, way);
        return paid.legs.end() - chains.time[label];
    }

    private int endWithout(int account) {
        guess.set(asked.from, asked.to, asked.amount, asked.minute);
        guess.barred = account;
        sweep.forward(guess);
        return sweep.endAt(asked.to);
    }

    private static long partOf(Account account, int bank, int what) {
        if (what == 2) {
            return account.to == bank ? 1 : 0;
        }
        if (account.from != bank) {
            return 0;
        }
        switch (what) {
            case 1: return 1;
            case 3: return account.balance;
            default: return account.held;
        }
    }

    private static boolean within(int number, int least, int most) {
        return number >= least && number <= most;
    }

    private static boolean isMinute(int minute) {
        return within(minute, 0, LAST);
    }

    private static int orNone(int minute) {
        return minute == NEVER ? NONE : minute;
    }

    /** A PLACE: its days off, HOLIDAYS and hours. */
    private static final class Place {
        private static final int FIRST_DAY = -1;
        /** So far that the 20th BUSINESS DAY behind the last DAY is below it, be there one in a week. */
        private static final int END_DAY = 599;

        final int offset;
        final int off;
        final int opens;
        final int shuts;
        int holidays;
        private final boolean[] works;

        Place(int offset, int off, int opens, int shuts) {
            this.offset = offset;
            this.off = off;
            this.opens = opens;
            this.shuts = shuts;
            works = new boolean[END_DAY - FIRST_DAY];
            for (int i = 0; i < works.length; i++) {
                int weekday = (i + FIRST_DAY + 7) % 7;
                works[i] = (off >> weekday & 1) == 0;
            }
        }

        boolean worksOn(int day) {
            return day >= FIRST_DAY && day < END_DAY && works[day - FIRST_DAY];
        }

        void rest(int day) {
            if (day >= FIRST_DAY && day < END_DAY) {
                works[day - FIRST_DAY] = false;
                holidays++;
            }
        }

        int dayAt(int minute) {
            // No OFFSET is as low as a DAY, so that with one more the quotient is rounded down.
            return (minute + offset + DAY) / DAY - 1;
        }

        int hourAt(int minute) {
            return (minute + offset + DAY) % DAY;
        }

        int minuteOf(int day, int hour) {
            return day * DAY + hour - offset;
        }

        boolean isOpen(int minute) {
            int hour = hourAt(minute);
            return hour >= opens && hour <= shuts && worksOn(dayAt(minute));
        }

        /** The n-th BUSINESS DAY behind a DAY. */
        int workdayBehind(int day, int n) {
            int found = day;
            int missing = n;
            for (int next = day + 1; missing > 0 && next < END_DAY; next++) {
                if (worksOn(next)) {
                    found = next;
                    missing--;
                }
            }
            return found;
        }

        /** The least MINUTE from one to another at which it is OPEN, or NONE. */
        int firstOpen(int from, int to) {
            int lastDay = dayAt(to);
            for (int day = dayAt(from); day <= lastDay; day++) {
                if (worksOn(day)) {
                    int start = Math.max(from, minuteOf(day, opens));
                    if (start <= Math.min(to, minuteOf(day, shuts))) {
                        return start;
                    }
                }
            }
            return NONE;
        }

        /** The greatest MINUTE from one to another at which it is OPEN, or NONE. */
        int lastOpen(int from, int to) {
            int firstDay = dayAt(from);
            for (int day = dayAt(to); day >= firstDay; day--) {
                if (worksOn(day)) {
                    int end = Math.min(to, minuteOf(day, shuts));
                    if (end >= Math.max(from, minuteOf(day, opens))) {
                        return end;
                    }
                }
            }
            return NONE;
        }

        /** At how many MINUTES from one to another it is OPEN. */
        int openCount(int from, int to) {
            int count = 0;
            int lastDay = dayAt(to);
            for (int day = dayAt(from); day <= lastDay; day++) {
                if (worksOn(day)) {
                    int start = Math.max(from, minuteOf(day, opens));
                    int end = Math.min(to, minuteOf(day, shuts));
                    count += Math.max(0, end - start + 1);
                }
            }
            return count;
        }
    }

    /** What an ACCOUNT takes for an amount. */
    private static final class Fees {
        private int fix;
        private int rate;
        private int least;
        private int most = MOST_FEE;

        void set(int fix, int rate, int least, int most) {
            this.fix = fix;
            this.rate = rate;
            this.least = least;
            this.most = most;
        }

        int of(int amount) {
            return Math.max(least, Math.min(most, fix + amount * rate / 1_000));
        }
    }

    /** The latest moves of a BALANCE. */
    private static final class Ledger {
        private static final int KEPT = 12;
        private static final int PARTS = 5;

        private final int[] parts = new int[KEPT * PARTS];
        private int count;

        void write(int minute, int what, int moved, int balance, int payment) {
            int at = count % KEPT * PARTS;
            parts[at] = minute;
            parts[at + 1] = what;
            parts[at + 2] = moved;
            parts[at + 3] = balance;
            parts[at + 4] = payment;
            count++;
        }

        boolean has(int k) {
            return k >= 0 && k < KEPT && k < count;
        }

        /** A part of the k-th latest line; only asked where has(k). */
        int read(int k, int what) {
            return parts[(count - 1 - k) % KEPT * PARTS + what];
        }
    }

    /** An ACCOUNT: its terms, its money, when an amount can go by it. */
    private static final class Account {
        private static final int FIRST_DAY = -1;
        private static final int END_DAY = 401;

        final int from;
        final int to;
        /** The PLACES of its first and its second BANK. */
        private final Place near;
        private final Place far;
        final int cut;
        final int lag;
        final int ready;
        final Fees fees = new Fees();
        int limit = MOST_AMOUNT;
        int daily = MOST_MOVED;
        int balance;
        int held;
        boolean isShut;
        int leftCount;
        int backCount;
        final Ledger ledger = new Ledger();
        private final int[] used = new int[END_DAY - FIRST_DAY];

        Account(int from, int to, Place near, Place far, int cut, int lag, int ready) {
            this.from = from;
            this.to = to;
            this.near = near;
            this.far = far;
            this.cut = cut;
            this.lag = lag;
            this.ready = ready;
        }

        int free() {
            return balance - held;
        }

        int usedOn(int day) {
            return day >= FIRST_DAY && day < END_DAY ? used[day - FIRST_DAY] : 0;
        }

        /** So much more (or less) is USED of the DAY of a MINUTE. */
        void use(int minute, int amount) {
            int day = far.dayAt(minute);
            if (day >= FIRST_DAY && day < END_DAY) {
                used[day - FIRST_DAY] += amount;
            }
        }

        int busiestDay() {
            int busiest = NONE;
            for (int day = 0; day <= LAST_DAY; day++) {
                if (usedOn(day) > (busiest == NONE ? 0 : usedOn(busiest))) {
                    busiest = day;
                }
            }
            return busiest;
        }

        /** When an amount LEAVES from a MINUTE on, or NONE. */
        int leaveFrom(int minute, int amount) {
            return amount > limit ? NONE : firstBoth(minute, cut, amount);
        }

        /**
         * The least MINUTE from one on at which both PLACES are OPEN, up to an HOUR of the second one,
         * on a DAY with room for an amount (NONE: room is not asked); NONE without.
         */
        int firstBoth(int minute, int lastHour, int amount) {
            int close = Math.min(lastHour, far.shuts);
            if (close < far.opens) {
                return NONE;
            }
            int lastDay = far.dayAt(LAST);
            for (int day = far.dayAt(minute); day <= lastDay; day++) {
                if (far.worksOn(day) && (amount == NONE || usedOn(day) + amount <= daily)) {
                    int start = Math.max(minute, far.minuteOf(day, far.opens));
                    int end = Math.min(LAST, far.minuteOf(day, close));
                    int found = start > end ? NONE : near.firstOpen(start, end);
                    if (found != NONE) {
                        return found;
                    }
                }
            }
            return NONE;
        }

        /** When it ARRIVES that LEAVES at a MINUTE, or NONE. */
        int arrivalOf(int leave) {
            int day = far.workdayBehind(far.dayAt(leave), lag);
            int minute = Math.max(leave, far.minuteOf(day, ready));
            return minute > LAST ? NONE : minute;
        }

        /** The latest MINUTE, not below one, at which an amount CAN LEAVE so that it ARRIVES by another; NONE. */
        int leaveBy(int least, int by, int amount) {
            int firstDay = amount > limit ? NEVER : far.dayAt(least);
            for (int day = far.dayAt(by); day >= firstDay; day--) {
                if (far.worksOn(day) && usedOn(day) + amount <= daily
                        && far.minuteOf(far.workdayBehind(day, lag), ready) <= by) {
                    int start = Math.max(least, far.minuteOf(day, far.opens));
                    int end = Math.min(by, far.minuteOf(day, Math.min(cut, far.shuts)));
                    int found = start > end ? NONE : near.lastOpen(start, end);
                    if (found != NONE) {
                        return found;
                    }
                }
            }
            return NONE;
        }

        /** At how many MINUTES of a DAY an amount of 1 CAN LEAVE. */
        int minutesOn(int day) {
            if (!far.worksOn(day) || usedOn(day) + 1 > daily) {
                return 0;
            }
            int start = Math.max(0, far.minuteOf(day, far.opens));
            int end = Math.min(LAST, far.minuteOf(day, Math.min(cut, far.shuts)));
            return start > end ? 0 : near.openCount(start, end);
        }
    }

    /** The HOPS of a CHAIN, as laid. */
    private static final class Legs {
        int count;
        final int[] by = new int[MOST_HOPS];
        final int[] leave = new int[MOST_HOPS];
        final int[] arrive = new int[MOST_HOPS];
        final int[] fee = new int[MOST_HOPS];

        int end() {
            return count > 0 ? arrive[count - 1] : NONE;
        }

        int feesTogether() {
            int sum = 0;
            for (int hop = 0; hop < count; hop++) {
                sum += fee[hop];
            }
            return sum;
        }

        /** The ACCOUNTS, as bits. */
        long accounts() {
            long bits = 0;
            for (int hop = 0; hop < count; hop++) {
                bits |= 1L << by[hop];
            }
            return bits;
        }

        /** The HOP by an ACCOUNT, or NONE. */
        int hopBy(int account) {
            for (int hop = 0; hop < count; hop++) {
                if (by[hop] == account) {
                    return hop;
                }
            }
            return NONE;
        }

        /** From a HOP on these are as all of the others. */
        void replaceFrom(int hop, Legs others) {
            count = Math.min(MOST_HOPS, hop + others.count);
            for (int i = hop; i < count; i++) {
                by[i] = others.by[i - hop];
                leave[i] = others.leave[i - hop];
                arrive[i] = others.arrive[i - hop];
                fee[i] = others.fee[i - hop];
            }
        }
    }

    /**
     * A PAYMENT. HOPS leave in turn and go BACK in turn, the latest first:
     * how many did says which.
     */
    private static final class Payment {
        final int number;
        final int amount;
        final int first;
        final int last;
        /** The MINUTE of its ASK. */
        final int asked;
        final int bookedEnd;
        final Legs legs = new Legs();
        final int[] backAt = new int[MOST_HOPS];
        int state = BOOKED;
        int left;
        int back;

        Payment(int number, Quest ask, Legs way) {
            this.number = number;
            amount = ask.amount;
            first = ask.from;
            last = ask.to;
            asked = ask.minute;
            bookedEnd = way.end();
            legs.replaceFrom(0, way);
            Arrays.fill(backAt, NONE);
        }

        boolean isBack(int hop) {
            return hop < left && hop >= left - back;
        }

        /** The MINUTE from which what has not LEFT yet may go on. */
        int restFrom() {
            return left == 0 ? asked : legs.arrive[left - 1];
        }

        int nextMinute() {
            if (state == BOOKED) {
                return left < legs.count ? legs.leave[left] : legs.end();
            }
            int hop = left - 1 - back;
            return state == RETURNING && hop >= 0 ? backAt[hop] : NONE;
        }

        /** The MINUTE at which it will move BALANCE of an ACCOUNT, or NONE. */
        int moveMinute(int account) {
            int hop = legs.hopBy(account);
            if (hop != NONE && state == BOOKED && hop >= left) {
                return legs.leave[hop];
            }
            return hop != NONE && state == RETURNING && hop < left - back ? backAt[hop] : NONE;
        }

        /** By how much it will; only asked where there is such a MINUTE. */
        int moveOf(int account) {
            int hop = legs.hopBy(account);
            if (hop == NONE) {
                return 0;
            }
            return state == BOOKED ? -amount - legs.fee[hop] : amount;
        }

        /** How much of it happens up to a MINUTE. */
        int countUpTo(int minute) {
            int count = 0;
            if (state == BOOKED) {
                for (int hop = left; hop < legs.count; hop++) {
                    count += legs.leave[hop] <= minute ? 1 : 0;
                }
                count += legs.end() <= minute ? 1 : 0;
            }
            if (state == RETURNING) {
                for (int hop = 0; hop < left - back; hop++) {
                    count += backAt[hop] <= minute ? 1 : 0;
                }
            }
            return count;
        }

        long heldTogether() {
            long sum = 0;
            for (int hop = left; state == BOOKED && hop < legs.count; hop++) {
                sum += amount + legs.fee[hop];
            }
            return sum;
        }
    }

    /** PLACES, BANKS, ACCOUNTS, and the clock. */
    private static final class Net {
        final Place[] places = new Place[MOST_PLACES];
        int placeCount;
        final int[] bankPlace = new int[MOST_BANKS];
        /** The ACCOUNTS from each BANK, as bits. */
        final long[] goFrom = new long[MOST_BANKS];
        int bankCount;
        final Account[] accounts = new Account[MOST_ACCOUNTS];
        int accountCount;
        int now;

        int addPlace(int offset, int off, int opens, int shuts) {
            if (placeCount >= MOST_PLACES) {
                return NONE;
            }
            places[placeCount] = new Place(offset, off, opens, shuts);
            placeCount++;
            return placeCount - 1;
        }

        int addBank(int place) {
            if (bankCount >= MOST_BANKS) {
                return NONE;
            }
            bankPlace[bankCount] = place;
            bankCount++;
            return bankCount - 1;
        }

        int addAccount(int from, int to, int cut, int lag, int ready) {
            if (accountCount >= MOST_ACCOUNTS) {
                return NONE;
            }
            accounts[accountCount] = new Account(from, to, placeOfBank(from), placeOfBank(to), cut, lag, ready);
            goFrom[from] |= 1L << accountCount;
            accountCount++;
            return accountCount - 1;
        }

        Place placeOfBank(int bank) {
            return places[bankPlace[bank]];
        }
    }

    /** PAYMENTS, and what happens to them. */
    private static final class Book {
        private static final int MOST_HAPPENINGS = 1_000;

        private final Net net;
        final Payment[] payments = new Payment[MOST_PAYMENTS];
        int count;

        Book(Net net) {
            this.net = net;
        }

        int enter(Quest ask, Legs way) {
            Payment paid = new Payment(count, ask, way);
            payments[count] = paid;
            count++;
            holdRest(paid, 1);
            return paid.number;
        }

        /** HOPS that have not LEFT are held and used for (1), or released (-1). */
        void holdRest(Payment paid, int sign) {
            for (int hop = paid.left; hop < paid.legs.count; hop++) {
                accountOfHop(paid, hop).held += sign * (paid.amount + paid.legs.fee[hop]);
            }
            useFrom(paid, paid.left, sign);
        }

        private void useFrom(Payment paid, int first, int sign) {
            for (int hop = first; hop < paid.legs.count; hop++) {
                accountOfHop(paid, hop).use(paid.legs.leave[hop], sign * paid.amount);
            }
        }

        private Account accountOfHop(Payment paid, int hop) {
            return net.accounts[paid.legs.by[hop]];
        }

        int happenUpTo(int minute) {
            int happened = 0;
            for (int i = 0; i < MOST_HAPPENINGS; i++) {
                int next = nextMinute();
                if (next == NONE || next > minute) {
                    return happened;
                }
                for (int number = 0; number < count; number++) {
                    happened += happenAt(payments[number], next);
                }
            }
            return happened;
        }

        private int happenAt(Payment paid, int minute) {
            int happened = 0;
            while (happened <= MOST_HOPS && paid.nextMinute() == minute) {
                if (paid.state == RETURNING) {
                    goBack(paid, minute);
                } else if (paid.left < paid.legs.count) {
                    goOut(paid, minute);
                } else {
                    paid.state = PAID;
                }
                happened++;
            }
            return happened;
        }

        private void goOut(Payment paid, int minute) {
            Account by = accountOfHop(paid, paid.left);
            int cost = paid.amount + paid.legs.fee[paid.left];
            by.held -= cost;
            by.balance -= cost;
            by.leftCount++;
            by.ledger.write(minute, LINE_LEFT, cost, by.balance, paid.number);
            paid.left++;
        }

        private void goBack(Payment paid, int minute) {
            Account by = accountOfHop(paid, paid.left - 1 - paid.back);
            by.balance += paid.amount;
            by.backCount++;
            by.ledger.write(minute, LINE_BACK, paid.amount, by.balance, paid.number);
            paid.back++;
            if (paid.back == paid.left) {
                paid.state = RETURNED;
            }
        }

        /** A BOOKED PAYMENT is REFUSED. */
        void turnBack(Payment paid) {
            holdRest(paid, -1);
            paid.state = paid.left == 0 ? RETURNED : RETURNING;
            findBacks(paid);
        }

        private void findBacks(Payment paid) {
            int latest = paid.left - 1 - paid.back;
            if (latest < 0) {
                return;
            }
            int from = paid.back == 0 ? paid.legs.arrive[latest] : paid.backAt[latest + 1];
            from = Math.max(net.now, from);
            for (int hop = latest; hop >= 0; hop--) {
                int found = accountOfHop(paid, hop).firstBoth(from, LAST_HOUR, NONE);
                from = found == NONE ? LAST : found;
                paid.backAt[hop] = from;
            }
        }

        /** What follows from a HOLIDAY that is told. */
        void layAllAnew() {
            for (int number = 0; number < count; number++) {
                Payment paid = payments[number];
                if (paid.state == RETURNING) {
                    findBacks(paid);
                } else if (paid.state == BOOKED && !layAnew(paid)) {
                    turnBack(paid);
                }
            }
        }

        /** Lays anew what has not LEFT, as far as that goes: whether it goes to the end. */
        private boolean layAnew(Payment paid) {
            Legs legs = paid.legs;
            useFrom(paid, paid.left, -1);
            int from = Math.max(net.now, paid.restFrom());
            for (int hop = paid.left; hop < legs.count; hop++) {
                Account by = accountOfHop(paid, hop);
                int leave = by.leaveFrom(from, paid.amount);
                int arrive = leave == NONE ? NONE : by.arrivalOf(leave);
                if (arrive == NONE) {
                    // What is not laid anew counts again as it was, so that all of it is released alike.
                    useFrom(paid, hop, 1);
                    return false;
                }
                legs.leave[hop] = leave;
                legs.arrive[hop] = arrive;
                by.use(leave, paid.amount);
                from = arrive;
            }
            return true;
        }

        /** The BANK at which a PAYMENT is. */
        int whereIs(Payment paid) {
            if (paid.left == 0) {
                return paid.first;
            }
            if (paid.back == 0) {
                return accountOfHop(paid, paid.left - 1).to;
            }
            return accountOfHop(paid, paid.left - paid.back).from;
        }

        /** The BANKS at which a PAYMENT was, as bits. */
        int banksSeen(Payment paid) {
            int bits = 1 << paid.first;
            for (int hop = 0; hop < paid.left; hop++) {
                bits |= 1 << accountOfHop(paid, hop).to;
            }
            return bits;
        }

        int nextMinute() {
            int least = NONE;
            for (int number = 0; number < count; number++) {
                int minute = payments[number].nextMinute();
                if (minute != NONE && (least == NONE || minute < least)) {
                    least = minute;
                }
            }
            return least;
        }

        int countIn(int state) {
            int found = 0;
            for (int number = 0; number < count; number++) {
                found += payments[number].state == state ? 1 : 0;
            }
            return found;
        }

        int countUpTo(int minute) {
            int found = 0;
            for (int number = 0; number < count; number++) {
                found += payments[number].countUpTo(minute);
            }
            return found;
        }

        /** BOOKED PAYMENTS, as bits, with a HOP by an ACCOUNT that has not LEFT. */
        long waitingBy(int account) {
            long bits = 0;
            for (int number = 0; number < count; number++) {
                Payment paid = payments[number];
                if (paid.state == BOOKED && paid.legs.hopBy(account) >= paid.left) {
                    bits |= 1L << number;
                }
            }
            return bits;
        }

        int balanceAt(int account, int minute) {
            int balance = net.accounts[account].balance;
            for (int number = 0; number < count; number++) {
                int moves = payments[number].moveMinute(account);
                if (moves != NONE && moves <= minute) {
                    balance += payments[number].moveOf(account);
                }
            }
            return balance;
        }

        /** The first MINUTE behind which BALANCE is at its least, or NONE: it is so now. */
        int lowestMinute(int account) {
            int lowest = net.accounts[account].balance;
            int found = NONE;
            for (int number = 0; number < count; number++) {
                int minute = payments[number].moveMinute(account);
                if (minute != NONE) {
                    int balance = balanceAt(account, minute);
                    if (balance < lowest || balance == lowest && found != NONE && minute < found) {
                        lowest = balance;
                        found = minute;
                    }
                }
            }
            return found;
        }

        long dueAt(int bank, int day) {
            Place place = net.placeOfBank(bank);
            long sum = 0;
            for (int number = 0; number < count; number++) {
                Payment paid = payments[number];
                if (paid.state == BOOKED && paid.last == bank && place.dayAt(paid.legs.end()) == day) {
                    sum += paid.amount;
                }
            }
            return sum;
        }
    }

    /** What CHAINS are sought for, and which ACCOUNTS may be in them. */
    private static final class Quest {
        private final Net net;
        int from;
        int to;
        int amount;
        int minute;
        /** So many ACCOUNTS at most. */
        int hops;
        /** BANKS, as bits, that are left out. */
        int closed;
        /** An ACCOUNT taken as SHUT, one taken as having enough; NONE. */
        int barred;
        int funded;
        /** ACCOUNTS that may be in a CHAIN, as bits, and their FEES. */
        long usable;
        final int[] feeBy = new int[MOST_ACCOUNTS];
        /** From knownFrom to knownLeave it LEAVES by each at knownLeave, and ARRIVES at knownArrive. */
        private final int[] knownFrom = new int[MOST_ACCOUNTS];
        private final int[] knownLeave = new int[MOST_ACCOUNTS];
        private final int[] knownArrive = new int[MOST_ACCOUNTS];

        Quest(Net net) {
            this.net = net;
        }

        void set(int from, int to, int amount, int minute) {
            this.from = from;
            this.to = to;
            this.amount = amount;
            this.minute = minute;
            hops = MOST_HOPS;
            closed = 0;
            barred = NONE;
            funded = NONE;
        }

        /** Looks anew at what may be used, by all as it is now. */
        void prepare() {
            usable = 0;
            for (int i = 0; i < net.accountCount; i++) {
                Account by = net.accounts[i];
                feeBy[i] = by.fees.of(amount);
                knownFrom[i] = NEVER;
                boolean enough = i == funded || by.free() >= amount + feeBy[i];
                if (enough && i != barred && !by.isShut && amount <= by.limit) {
                    usable |= 1L << i;
                }
            }
        }

        boolean mayUse(int account) {
            return (usable >> account & 1) != 0;
        }

        /** When it ARRIVES by a usable ACCOUNT, from a MINUTE on; NEVER. */
        int arrivalBy(int account, int start) {
            if (start < knownFrom[account] || start > knownLeave[account]) {
                Account by = net.accounts[account];
                int leave = by.firstBoth(start, by.cut, amount);
                int arrive = leave == NONE ? NONE : by.arrivalOf(leave);
                knownFrom[account] = start;
                knownLeave[account] = leave == NONE ? NEVER : leave;
                knownArrive[account] = arrive == NONE ? NEVER : arrive;
            }
            return knownArrive[account];
        }
    }

    /**
     * Best times alone, BANK by BANK. Who comes later never goes on sooner, so that the best way
     * over BANKS with one of them twice is no better than the best one without.
     */
    private static final class Sweep {
        private final Net net;
        /** By so many ACCOUNTS at most: the least END at each BANK, or NEVER. */
        final int[][] ends = new int[MOST_HOPS + 1][MOST_BANKS];
        /** By so many at most: the latest MINUTE to be at each BANK, or NONE. */
        private final int[][] starts = new int[MOST_HOPS + 1][MOST_BANKS];

        Sweep(Net net) {
            this.net = net;
        }

        int endAt(int bank) {
            return ends[MOST_HOPS][bank];
        }

        void forward(Quest quest) {
            quest.prepare();
            Arrays.fill(ends[0], NEVER);
            ends[0][quest.from] = quest.minute;
            for (int hops = 1; hops <= MOST_HOPS; hops++) {
                System.arraycopy(ends[hops - 1], 0, ends[hops], 0, MOST_BANKS);
                for (int i = 0; i < net.accountCount; i++) {
                    Account by = net.accounts[i];
                    int start = ends[hops - 1][by.from];
                    boolean isNew = hops == 1 || start != ends[hops - 2][by.from];
                    if (start != NEVER && isNew && quest.mayUse(i)) {
                        ends[hops][by.to] = Math.min(ends[hops][by.to], quest.arrivalBy(i, start));
                    }
                }
            }
        }

        /** The latest MINUTE, from that of a quest on, from which one comes there by another; NONE. */
        int backward(Quest quest, int minute) {
            quest.prepare();
            Arrays.fill(starts[0], NONE);
            starts[0][quest.to] = minute;
            for (int hops = 1; hops <= MOST_HOPS; hops++) {
                System.arraycopy(starts[hops - 1], 0, starts[hops], 0, MOST_BANKS);
                for (int i = 0; i < net.accountCount; i++) {
                    Account by = net.accounts[i];
                    int end = starts[hops - 1][by.to];
                    boolean isNew = hops == 1 || end != starts[hops - 2][by.to];
                    if (end != NONE && isNew && quest.mayUse(i)) {
                        int start = by.leaveBy(quest.minute, end, quest.amount);
                        starts[hops][by.from] = Math.max(starts[hops][by.from], start);
                    }
                }
            }
            return starts[MOST_HOPS][quest.from];
        }
    }

    /**
     * The UNBEATEN CHAINS of a quest. Beginnings of CHAINS (labels) are made by their number of ACCOUNTS,
     * of one number in the order of ACCOUNTS. One is dropped if an earlier one came to the same BANK
     * not later and not dearer: what goes on from it would be beaten, or would come behind the
     * other one among alike pairs. One does not go on either if a later one of no more ACCOUNTS came there
     * not later and cheaper; but if that one is only sooner, both may come to the same END.
     */
    private static final class Chains {
        private static final int FIRST_ROOM = 64;

        private final Net net;
        private Quest quest;
        private int count;
        int[] time = new int[FIRST_ROOM];
        int[] fees = new int[FIRST_ROOM];
        /** The label that it goes on from, and the ACCOUNT by which; NONE both of the first one. */
        private int[] parent = new int[FIRST_ROOM];
        private int[] by = new int[FIRST_ROOM];
        /** BANKS that it must not come to any more, as bits. */
        private int[] seen = new int[FIRST_ROOM];
        /** The next one at its BANK that no other one there beats: later, and cheaper. */
        private int[] behind = new int[FIRST_ROOM];
        /** The first of these of each BANK. */
        private final int[] front = new int[MOST_BANKS];

        Chains(Net net) {
            this.net = net;
        }

        void search(Quest sought) {
            quest = sought;
            quest.prepare();
            Arrays.fill(front, NONE);
            count = 1;
            time[0] = quest.minute;
            fees[0] = 0;
            parent[0] = NONE;
            by[0] = NONE;
            seen[0] = quest.closed | 1 << quest.from;
            int begin = 0;
            for (int hops = 0; hops < quest.hops; hops++) {
                int end = count;
                for (int label = begin; label < end; label++) {
                    if (!isUndercut(label, end)) {
                        extend(label);
                    }
                }
                begin = end;
            }
        }

        private int bankOfLabel(int label) {
            return label == 0 ? quest.from : net.accounts[by[label]].to;
        }

        /** Whether another label below an end came to the same BANK not later, and cheaper. */
        private boolean isUndercut(int label, int end) {
            int other = front[bankOfLabel(label)];
            for (int i = 0; i < count && other != NONE && time[other] <= time[label]; i++) {
                if (other < end && fees[other] < fees[label]) {
                    return true;
                }
                other = behind[other];
            }
            return false;
        }

        private void extend(int label) {
            int bank = bankOfLabel(label);
            long rest = bank == quest.to ? 0 : quest.usable & net.goFrom[bank];
            for (int i = 0; i < MOST_ACCOUNTS && rest != 0; i++) {
                int account = Long.numberOfTrailingZeros(rest);
                rest &= rest - 1;
                int next = net.accounts[account].to;
                if ((seen[label] >> next & 1) == 0) {
                    int arrive = quest.arrivalBy(account, time[label]);
                    int cost = fees[label] + quest.feeBy[account];
                    if (arrive != NEVER && !isBeaten(quest.to, arrive, cost)) {
                        offer(label, account, arrive, cost);
                    }
                }
            }
        }

        /** Whether a label at a BANK is not later and not dearer. */
        private boolean isBeaten(int bank, int arrive, int cost) {
            int other = front[bank];
            for (int i = 0; i < count && other != NONE && time[other] <= arrive; i++) {
                if (fees[other] <= cost) {
                    return true;
                }
                other = behind[other];
            }
            return false;
        }

        private void offer(int label, int account, int arrive, int cost) {
            int bank = net.accounts[account].to;
            if (isBeaten(bank, arrive, cost)) {
                return;
            }
            makeRoom();
            time[count] = arrive;
            fees[count] = cost;
            parent[count] = label;
            by[count] = account;
            seen[count] = seen[label] | 1 << bank;
            putInFront(bank, count);
            count++;
        }

        /** Puts an unbeaten label among those of its BANK, by time, in place of those that it beats. */
        private void putInFront(int bank, int label) {
            int ahead = NONE;
            int other = front[bank];
            for (int i = 0; i < count && other != NONE && time[other] < time[label]; i++) {
                ahead = other;
                other = behind[other];
            }
            for (int i = 0; i < count && other != NONE && fees[other] >= fees[label]; i++) {
                other = behind[other];
            }
            behind[label] = other;
            if (ahead == NONE) {
                front[bank] = label;
            } else {
                behind[ahead] = label;
            }
        }

        private void makeRoom() {
            if (count < time.length) {
                return;
            }
            int room = count * 2;
            time = Arrays.copyOf(time, room);
            fees = Arrays.copyOf(fees, room);
            parent = Arrays.copyOf(parent, room);
            by = Arrays.copyOf(by, room);
            seen = Arrays.copyOf(seen, room);
            behind = Arrays.copyOf(behind, room);
        }

        /** How many ROUTES there are. */
        int size() {
            int found = 0;
            int label = front[quest.to];
            while (found < count && label != NONE) {
                found++;
                label = behind[label];
            }
            return found;
        }

        /** The label of ROUTE k, or NONE. */
        int labelOf(int k) {
            int label = k < 0 ? NONE : front[quest.to];
            for (int i = 0; i < k && label != NONE; i++) {
                label = behind[label];
            }
            return label;
        }

        int leastFeesBy(int minute) {
            int least = NONE;
            int label = front[quest.to];
            for (int i = 0; i < count && label != NONE && time[label] <= minute; i++) {
                least = fees[label];
                label = behind[label];
            }
            return least;
        }

        int lengthOf(int label) {
            int length = 0;
            int at = label;
            while (length < MOST_HOPS && parent[at] != NONE) {
                at = parent[at];
                length++;
            }
            return length;
        }

        /** Writes the CHAIN of a label. */
        void trace(int label, Legs legs) {
            legs.count = lengthOf(label);
            int at = label;
            for (int hop = legs.count - 1; hop >= 0; hop--) {
                Account account = net.accounts[by[at]];
                legs.by[hop] = by[at];
                legs.fee[hop] = fees[at] - fees[parent[at]];
                legs.arrive[hop] = time[at];
                legs.leave[hop] = account.firstBoth(time[parent[at]], account.cut, quest.amount);
                at = parent[at];
            }
        }
    }
}
