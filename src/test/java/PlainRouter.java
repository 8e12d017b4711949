import java.util.ArrayList;
import java.util.Arrays;
import java.util.HashMap;
import java.util.List;
import java.util.Map;
import java.util.NoSuchElementException;
import java.util.TreeSet;

/**
 * The document read word by word, with no thought of speed: minutes are tried one by one, and all
 * CHAINS are written out. RandomRunsTest holds AbroadRouter against it.
 */
final class PlainRouter {
    static final int NONE = -1;
    static final int LAST = 575_999;

    static final class Place {
        int offset, off, opens, shuts;
        List<Integer> holidays = new ArrayList<>();
        boolean[] openAt;
    }

    static final class Account {
        int number, from, to, cut, lag, ready, fix, rate, least, most = 99_999, limit = 1_000_000, daily = 9_999_999;
        int balance, left, back;
        boolean shut;
        List<int[]> lines = new ArrayList<>();
    }

    static final class Hop {
        int account, leaves, arrives, fee, back = NONE;
        boolean left, isBack, released;
    }

    static final class Payment {
        int amount, first, last, asked, bookedEnd, state;
        List<Hop> hops = new ArrayList<>();
        int end() { return hops.get(hops.size() - 1).arrives; }
    }

    static final class Chain {
        List<Integer> accounts = new ArrayList<>();
        List<Integer> leaves = new ArrayList<>();
        List<Integer> arrives = new ArrayList<>();
        int fees;
        int end() { return arrives.get(arrives.size() - 1); }
    }

    final List<Place> places = new ArrayList<>();
    final List<Integer> banks = new ArrayList<>();
    final List<Account> accounts = new ArrayList<>();
    final List<Payment> payments = new ArrayList<>();
    int now;
    int[] ask;
    int missing, wrong;
    /** Found LEAVES of one question; emptied whenever anything may have changed. */
    final Map<Long, Integer> found = new HashMap<>();

    private NoSuchElementException none() { missing++; return new NoSuchElementException(); }
    private IllegalArgumentException bad() { wrong++; return new IllegalArgumentException(); }
    private void fit(boolean is) { if (!is) throw bad(); }
    private Place p(int i) { if (i < 0 || i >= places.size()) throw none(); return places.get(i); }
    private int b(int i) { if (i < 0 || i >= banks.size()) throw none(); return banks.get(i); }
    private Account a(int i) { found.clear(); if (i < 0 || i >= accounts.size()) throw none(); return accounts.get(i); }
    private Payment y(int i) { found.clear(); if (i < 0 || i >= payments.size()) throw none(); return payments.get(i); }
    private static boolean in(int x, int lo, int hi) { return lo <= x && x <= hi; }

    // ---- places and time ----

    private static int day(Place p, int minute) { return Math.floorDiv(minute + p.offset, 1440); }
    private static int hour(Place p, int minute) { return Math.floorMod(minute + p.offset, 1440); }
    private static boolean business(Place p, int day) {
        return (p.off >> Math.floorMod(day, 7) & 1) == 0 && !p.holidays.contains(day);
    }
    private static boolean isOpen(Place p, int minute) {
        if (p.openAt == null) {
            p.openAt = new boolean[LAST + 1];
            int known = Integer.MIN_VALUE;
            boolean business = false;
            for (int m = 0; m <= LAST; m++) {
                if (day(p, m) != known) { known = day(p, m); business = business(p, known); }
                p.openAt[m] = business && hour(p, m) >= p.opens && hour(p, m) <= p.shuts;
            }
        }
        return p.openAt[minute];
    }
    private static int nth(Place p, int day, int n) {
        int d = day;
        for (int k = n; k > 0; ) { d++; if (business(p, d)) k--; }
        return d;
    }
    private Place near(Account a) { return places.get(banks.get(a.from)); }
    private Place far(Account a) { return places.get(banks.get(a.to)); }

    private int usedOf(Account a, int day, Payment but) {
        int sum = 0;
        for (Payment y : payments) {
            for (Hop h : y.hops) {
                boolean counts = h.account == a.number && !h.released && !(y == but && !h.left);
                if (counts && day(far(a), h.leaves) == day) sum += y.amount;
            }
        }
        return sum;
    }
    private int feeOf(Account a, int amount) {
        int fee = a.fix + (int) ((long) amount * a.rate / 1000);
        if (fee < a.least) fee = a.least;
        if (fee > a.most) fee = a.most;
        return fee;
    }
    private int held(Account a) {
        int sum = 0;
        for (Payment y : payments) {
            for (Hop h : y.hops) if (h.account == a.number && y.state == 0 && !h.left) sum += y.amount + h.fee;
        }
        return sum;
    }
    private int freeOf(Account a) { return a.balance - held(a); }

    private int leavesFrom(Account a, int minute, int amount, Payment but) {
        long key = ((long) a.number * (LAST + 1) + minute) * 1_000_001L + amount;
        Integer known = but == null ? found.get(key) : null;
        if (known != null) return known;
        int answer = NONE;
        int knownDay = Integer.MIN_VALUE;
        boolean room = false;
        for (int m = minute; m <= LAST && amount <= a.limit; m++) {
            if (isOpen(near(a), m) && isOpen(far(a), m) && hour(far(a), m) <= a.cut) {
                int d = day(far(a), m);
                if (d != knownDay) { knownDay = d; room = usedOf(a, d, but) + amount <= a.daily; }
                if (room) { answer = m; break; }
            }
        }
        if (but == null) found.put(key, answer);
        return answer;
    }
    private int arrivesWhen(Account a, int leaves) {
        if (leaves == NONE) return NONE;
        Place p = far(a);
        int at = nth(p, day(p, leaves), a.lag) * 1440 + a.ready - p.offset;
        if (at < leaves) at = leaves;
        return at > LAST ? NONE : at;
    }

    // ---- chains ----

    /** All CHAINS to a BANK (NONE: to any). */
    private List<Chain> chains(int from, int to, int amount, int minute, int hops, List<Integer> seen, int shut, int rich) {
        List<Chain> all = new ArrayList<>();
        List<Integer> over = new ArrayList<>(seen);
        over.add(from);
        grow(new Chain(), from, to, amount, minute, hops, over, shut, rich, all);
        return all;
    }
    private void grow(Chain c, int at, int to, int amount, int minute, int hops, List<Integer> over, int shut, int rich, List<Chain> all) {
        if (c.accounts.size() == hops) return;
        for (Account a : accounts) {
            if (a.from != at || a.shut || a.number == shut || over.contains(a.to)) continue;
            if (a.number != rich && freeOf(a) < amount + feeOf(a, amount)) continue;
            int leaves = leavesFrom(a, minute, amount, null);
            int arrives = arrivesWhen(a, leaves);
            if (arrives == NONE) continue;
            Chain next = new Chain();
            next.accounts.addAll(c.accounts);
            next.leaves.addAll(c.leaves);
            next.arrives.addAll(c.arrives);
            next.accounts.add(a.number);
            next.leaves.add(leaves);
            next.arrives.add(arrives);
            next.fees = c.fees + feeOf(a, amount);
            if (to == NONE || a.to == to) all.add(next);
            over.add(a.to);
            grow(next, a.to, to, amount, arrives, hops, over, shut, rich, all);
            over.remove(over.size() - 1);
        }
    }
    private List<Chain> asked(int shut, int rich) {
        found.clear();
        return chains(ask[0], ask[1], ask[2], ask[3], 5, List.of(), shut, rich);
    }
    private static boolean ahead(Chain c, Chain d) {
        if (c.accounts.size() != d.accounts.size()) return c.accounts.size() < d.accounts.size();
        for (int i = 0; i < c.accounts.size(); i++) {
            if (!c.accounts.get(i).equals(d.accounts.get(i))) return c.accounts.get(i) < d.accounts.get(i);
        }
        return false;
    }
    private static List<Chain> routes(List<Chain> all) {
        List<Chain> best = new ArrayList<>();
        for (Chain c : all) {
            boolean chosen = true;
            for (Chain d : all) {
                boolean same = d.end() == c.end() && d.fees == c.fees;
                if (d.end() <= c.end() && d.fees <= c.fees && !same) chosen = false;
                if (same && ahead(d, c)) chosen = false;
            }
            if (chosen) best.add(c);
        }
        best.sort((c, d) -> Integer.compare(c.end(), d.end()));
        return best;
    }
    private Chain r(int k) {
        if (ask == null) throw none();
        List<Chain> routes = routes(asked(NONE, NONE));
        if (k < 0 || k >= routes.size()) throw none();
        return routes.get(k);
    }
    private static int leastEnd(List<Chain> all) {
        int least = Integer.MAX_VALUE;
        for (Chain c : all) least = Math.min(least, c.end());
        return least;
    }

    // ---- the calls ----

    public int place(int offset, int off, int opens, int shuts) {
        fit(in(offset, -720, 840) && in(off, 0, 126) && in(opens, 0, 1438) && shuts > opens && shuts <= 1439);
        if (places.size() == 6) return NONE;
        Place p = new Place();
        p.offset = offset; p.off = off; p.opens = opens; p.shuts = shuts;
        places.add(p);
        return places.size() - 1;
    }
    public int holiday(int place, int day) {
        Place p = p(place);
        fit(in(day, 0, 399));
        if (!business(p, day) || day <= day(p, now)) return 0;
        if (p.holidays.size() == 40) return -1;
        p.holidays.add(day);
        p.openAt = null;
        for (Payment y : payments) {
            if (y.state == 2) backs(y);
            if (y.state == 0) layAnew(y);
        }
        return 1;
    }
    private void layAnew(Payment y) {
        int from = Math.max(now, y.asked);
        boolean failed = false;
        List<Hop> rest = new ArrayList<>();
        for (Hop h : y.hops) {
            if (h.left) from = Math.max(now, h.arrives);
            else rest.add(h);
        }
        for (Hop h : rest) {
            if (failed) continue;
            Account a = accounts.get(h.account);
            int leaves = leavesFrom(a, from, y.amount, y);
            int arrives = arrivesWhen(a, leaves);
            if (arrives == NONE) { failed = true; continue; }
            h.leaves = leaves;
            h.arrives = arrives;
            from = arrives;
        }
        if (failed) refused(y);
    }
    private void refused(Payment y) {
        y.state = 3;
        for (Hop h : y.hops) {
            if (h.left) y.state = 2;
            else h.released = true;
        }
        backs(y);
    }
    private void backs(Payment y) {
        int from = now;
        for (int i = y.hops.size() - 1; i >= 0; i--) {
            Hop h = y.hops.get(i);
            if (!h.left) continue;
            boolean latest = i == y.hops.size() - 1 || !y.hops.get(i + 1).left;
            if (latest) from = Math.max(from, h.arrives);
            if (h.isBack) { from = Math.max(now, h.back); continue; }
            Account a = accounts.get(h.account);
            int m = from;
            while (m < LAST && !(isOpen(near(a), m) && isOpen(far(a), m))) m++;
            h.back = m;
            from = m;
        }
    }
    public int bank(int place) {
        p(place);
        if (banks.size() == 16) return NONE;
        banks.add(place);
        return banks.size() - 1;
    }
    public int account(int from, int to, int cut, int lag, int ready) {
        b(from);
        b(to);
        fit(from != to && in(cut, 0, 1439) && in(lag, 0, 5) && in(ready, 0, 1439));
        if (accounts.size() == 48) return NONE;
        Account a = new Account();
        a.number = accounts.size();
        a.from = from; a.to = to; a.cut = cut; a.lag = lag; a.ready = ready;
        accounts.add(a);
        return a.number;
    }
    public int terms(int account, int fix, int rate, int least, int most) {
        Account a = a(account);
        fit(in(fix, 0, 9999) && in(rate, 0, 100) && in(least, 0, 99_999) && in(most, least, 99_999));
        a.fix = fix; a.rate = rate; a.least = least; a.most = most;
        return feeOf(a, 1000);
    }
    public int limits(int account, int limit, int daily) {
        Account a = a(account);
        fit(in(limit, 0, 1_000_000) && in(daily, 0, 9_999_999));
        a.limit = limit; a.daily = daily;
        return Long.bitCount(tied(account));
    }
    public int fund(int account, int amount) {
        Account a = a(account);
        fit(in(amount, 1, 9_999_999));
        if ((long) a.balance + amount > 999_999_999L) return NONE;
        a.balance += amount;
        a.lines.add(0, new int[] {now, 2, amount, a.balance, NONE});
        return a.balance;
    }
    public int draw(int account, int amount) {
        Account a = a(account);
        fit(in(amount, 1, 9_999_999));
        if (freeOf(a) < amount) return NONE;
        a.balance -= amount;
        a.lines.add(0, new int[] {now, 3, amount, a.balance, NONE});
        return a.balance;
    }
    public boolean shut(int account, boolean is) {
        Account a = a(account);
        boolean was = a.shut;
        a.shut = is;
        return was;
    }
    public int go(int minutes) {
        fit(in(minutes, 1, 20_160));
        if (now + minutes > LAST) return NONE;
        int count = 0;
        for (int m = now; m <= now + minutes; m++) {
            for (int number = 0; number < payments.size(); number++) count += happen(number, m);
        }
        now += minutes;
        return count;
    }
    private int happen(int number, int m) {
        Payment y = payments.get(number);
        int count = 0;
        for (int i = 0; y.state == 0 && i < y.hops.size(); i++) {
            Hop h = y.hops.get(i);
            Account a = accounts.get(h.account);
            if (!h.left && h.leaves == m) {
                h.left = true;
                a.balance -= y.amount + h.fee;
                a.left++;
                a.lines.add(0, new int[] {m, 0, y.amount + h.fee, a.balance, number});
                count++;
            }
            if (i == y.hops.size() - 1 && h.left && h.arrives == m) { y.state = 1; count++; }
        }
        for (int i = y.hops.size() - 1; y.state == 2 && i >= 0; i--) {
            Hop h = y.hops.get(i);
            Account a = accounts.get(h.account);
            if (h.left && !h.isBack && h.back == m) {
                h.isBack = true;
                a.balance += y.amount;
                a.back++;
                a.lines.add(0, new int[] {m, 1, y.amount, a.balance, number});
                count++;
                if (i == 0) y.state = 3;
            }
        }
        return count;
    }
    public int ask(int from, int to, int amount, int minute) {
        b(from);
        b(to);
        fit(from != to && in(amount, 1, 1_000_000) && in(minute, 0, LAST));
        ask = new int[] {from, to, amount, minute};
        return routes(asked(NONE, NONE)).size();
    }
    public int route(int k, int what) {
        Chain c = r(k);
        fit(in(what, 0, 2));
        return what == 0 ? c.end() : what == 1 ? c.fees : c.accounts.size();
    }
    public int step(int k, int i, int what) {
        Chain c = r(k);
        if (i < 0 || i >= c.accounts.size()) throw none();
        fit(in(what, 0, 4));
        if (what == 0) return c.accounts.get(i);
        if (what == 1) return c.leaves.get(i);
        if (what == 2) return c.arrives.get(i);
        if (what == 3) return feeOf(accounts.get(c.accounts.get(i)), ask[2]);
        int came = i == 0 ? ask[3] : c.arrives.get(i - 1);
        int later = 0;
        while (came + later + 1 <= LAST && endBy(c, i, came + later + 1) == c.end()) later++;
        return later;
    }
    private int endBy(Chain c, int first, int minute) {
        int at = minute;
        for (int i = first; i < c.accounts.size() && at != NONE; i++) {
            Account a = accounts.get(c.accounts.get(i));
            at = arrivesWhen(a, leavesFrom(a, at, ask[2], null));
        }
        return at;
    }
    public int pay(int k) {
        Chain c = r(k);
        if (payments.size() == 64) return -1;
        if (ask[3] < now) return -2;
        Payment y = new Payment();
        y.amount = ask[2]; y.first = ask[0]; y.last = ask[1]; y.asked = ask[3]; y.bookedEnd = c.end();
        addHops(y, c);
        payments.add(y);
        return payments.size() - 1;
    }
    private void addHops(Payment y, Chain c) {
        for (int i = 0; i < c.accounts.size(); i++) {
            Hop h = new Hop();
            h.account = c.accounts.get(i);
            h.leaves = c.leaves.get(i);
            h.arrives = c.arrives.get(i);
            h.fee = feeOf(accounts.get(h.account), y.amount);
            y.hops.add(h);
        }
    }
    public int refuse(int payment) {
        Payment y = y(payment);
        if (y.state != 0) return 0;
        refused(y);
        return 1;
    }
    public int reroute(int payment) {
        Payment y = y(payment);
        List<Hop> left = new ArrayList<>();
        List<Integer> seen = new ArrayList<>(List.of(y.first));
        int at = y.first;
        int from = Math.max(now, y.asked);
        for (Hop h : y.hops) {
            if (h.left) {
                left.add(h);
                at = accounts.get(h.account).to;
                seen.add(at);
                from = Math.max(now, h.arrives);
            }
        }
        if (y.state != 0 || left.size() == y.hops.size()) return NONE;
        int end = y.end();
        List<Hop> before = y.hops;
        y.hops = left;
        List<Chain> all = chains(at, y.last, y.amount, from, 5 - left.size(), seen, NONE, NONE);
        List<Chain> routes = routes(all);
        if (routes.isEmpty() || routes.get(0).end() >= end) {
            y.hops = before;
            return 0;
        }
        addHops(y, routes.get(0));
        return end - y.end();
    }
    public int told(int what) {
        fit(in(what, 0, 9));
        if (what == 0) return now;
        if (what == 1) return places.size();
        if (what == 2) return banks.size();
        if (what == 3) return accounts.size();
        if (what == 4) return payments.size();
        int count = 0;
        int least = NONE;
        for (Payment y : payments) {
            if (y.state == what - 5) count++;
            int n = nextOf(y);
            if (n != NONE && (least == NONE || n < least)) least = n;
        }
        return what == 9 ? least : count;
    }
    private int nextOf(Payment y) {
        TreeSet<Integer> minutes = minutesOf(y, NONE);
        return minutes.isEmpty() ? NONE : minutes.first();
    }
    private TreeSet<Integer> minutesOf(Payment y, int account) {
        TreeSet<Integer> minutes = new TreeSet<>();
        for (Hop h : y.hops) {
            if (account != NONE && h.account != account) continue;
            if (y.state == 0 && !h.left) minutes.add(h.leaves);
            if (y.state == 2 && h.left && !h.isBack) minutes.add(h.back);
        }
        if (y.state == 0 && account == NONE) minutes.add(y.end());
        return minutes;
    }
    public int placeOf(int place, int what) {
        Place p = p(place);
        fit(in(what, 0, 7));
        return new int[] {p.offset, p.off, p.opens, p.shuts, p.holidays.size(), day(p, now), hour(p, now), isOpen(p, now) ? 1 : 0}[what];
    }
    public int accountOf(int account, int what) {
        Account a = a(account);
        fit(in(what, 0, 12));
        return new int[] {a.from, a.to, a.balance, held(a), freeOf(a), a.shut ? 1 : 0, a.cut, a.lag, a.ready, a.limit, a.daily, a.left, a.back}[what];
    }
    public int payment(int payment, int what) {
        Payment y = y(payment);
        fit(in(what, 0, 8));
        int fees = 0, left = 0, back = 0, at = y.first;
        for (Hop h : y.hops) {
            fees += h.fee;
            if (h.left) { left++; at = accounts.get(h.account).to; }
        }
        for (int i = y.hops.size() - 1; i >= 0; i--) {
            if (y.hops.get(i).isBack) { back++; at = accounts.get(y.hops.get(i).account).from; }
        }
        return new int[] {y.state, y.amount, fees, y.hops.size(), left, back, y.end(), at, nextOf(y)}[what];
    }
    public int leg(int payment, int hop, int what) {
        Payment y = y(payment);
        if (hop < 0 || hop >= y.hops.size()) throw none();
        fit(in(what, 0, 6));
        Hop h = y.hops.get(hop);
        return new int[] {h.account, h.leaves, h.arrives, h.left ? 1 : 0, h.back, h.isBack ? 1 : 0, h.fee}[what];
    }
    public int used(int account, int day) {
        Account a = a(account);
        fit(in(day, 0, 399));
        return usedOf(a, day, null);
    }
    public int fee(int account, int amount) {
        Account a = a(account);
        fit(in(amount, 1, 1_000_000));
        return feeOf(a, amount);
    }
    public boolean open(int place, int minute) {
        Place p = p(place);
        fit(in(minute, 0, LAST));
        return isOpen(p, minute);
    }
    public int next(int place, int minute) {
        Place p = p(place);
        fit(in(minute, 0, LAST));
        for (int m = minute; m <= LAST; m++) if (isOpen(p, m)) return m;
        return NONE;
    }
    public int after(int place, int day, int n) {
        Place p = p(place);
        fit(in(day, 0, 399) && in(n, 0, 20));
        return nth(p, day, n);
    }
    public int idle(int place, int day) {
        Place p = p(place);
        fit(in(day, 0, 399));
        int n = 0;
        while (!business(p, day + n)) n++;
        return n;
    }
    public int hours(int account, int day) {
        Account a = a(account);
        fit(in(day, 0, 399));
        Place p = far(a);
        int n = 0;
        boolean room = usedOf(a, day, null) + 1 <= a.daily;
        for (int m = Math.max(0, (day - 1) * 1440); m <= Math.min(LAST, (day + 2) * 1440); m++) {
            if (day(p, m) == day && room && isOpen(near(a), m) && isOpen(p, m) && hour(p, m) <= a.cut) n++;
        }
        return n;
    }
    public int busiest(int account, int what) {
        Account a = a(account);
        fit(in(what, 0, 1));
        int best = NONE, most = 0;
        for (int d = 0; d < 400; d++) {
            int u = usedOf(a, d, null);
            if (u > most) { most = u; best = d; }
        }
        return what == 0 ? best : most;
    }
    public long tied(int account) {
        a(account);
        long bits = 0;
        for (int i = 0; i < payments.size(); i++) {
            for (Hop h : payments.get(i).hops) {
                if (payments.get(i).state == 0 && h.account == account && !h.left) bits |= 1L << i;
            }
        }
        return bits;
    }
    public int line(int account, int k, int what) {
        Account a = a(account);
        if (k < 0 || k > 11 || k >= a.lines.size()) throw none();
        fit(in(what, 0, 4));
        return a.lines.get(k)[what];
    }
    public int forecast(int account, int minute) {
        Account a = a(account);
        fit(in(minute, now, LAST));
        return balanceAt(a, minute);
    }
    private int balanceAt(Account a, int minute) {
        int balance = a.balance;
        for (Payment y : payments) {
            for (Hop h : y.hops) {
                if (h.account != a.number) continue;
                if (y.state == 0 && !h.left && h.leaves <= minute) balance -= y.amount + h.fee;
                if (y.state == 2 && h.left && !h.isBack && h.back <= minute) balance += y.amount;
            }
        }
        return balance;
    }
    public int lowest(int account, int what) {
        Account a = a(account);
        fit(in(what, 0, 1));
        TreeSet<Integer> minutes = new TreeSet<>();
        for (Payment y : payments) minutes.addAll(minutesOf(y, account));
        int least = a.balance, at = now;
        for (int m : minutes) if (balanceAt(a, m) < least) { least = balanceAt(a, m); at = m; }
        return what == 0 ? least : at;
    }
    public int late(int payment) {
        Payment y = y(payment);
        return y.end() - y.bookedEnd;
    }
    public int leaves(int account, int minute, int amount) {
        Account a = a(account);
        fit(in(minute, 0, LAST) && in(amount, 1, 1_000_000));
        return leavesFrom(a, minute, amount, null);
    }
    public int arrives(int account, int minute, int amount) {
        Account a = a(account);
        fit(in(minute, 0, LAST) && in(amount, 1, 1_000_000));
        return arrivesWhen(a, leavesFrom(a, minute, amount, null));
    }
    public int reach(int from, int amount, int minute) {
        b(from);
        fit(in(amount, 1, 1_000_000) && in(minute, 0, LAST));
        found.clear();
        int bits = 0;
        for (Chain c : chains(from, NONE, amount, minute, 5, List.of(), NONE, NONE)) {
            bits |= 1 << accounts.get(c.accounts.get(c.accounts.size() - 1)).to;
        }
        return bits;
    }
    public int cheapest(int minute) {
        fit(ask != null && in(minute, 0, LAST));
        int least = NONE;
        for (Chain c : asked(NONE, NONE)) if (c.end() <= minute && (least == NONE || c.fees < least)) least = c.fees;
        return least;
    }
    public int latest(int minute) {
        fit(ask != null && in(minute, 0, LAST));
        found.clear();
        int[] kept = ask;
        int lo = ask[3] - 1, hi = LAST + 1;
        while (hi - lo > 1) {
            int mid = (lo + hi) / 2;
            ask = new int[] {kept[0], kept[1], kept[2], mid};
            if (leastEnd(chains(ask[0], ask[1], ask[2], mid, 5, List.of(), NONE, NONE)) <= minute) lo = mid;
            else hi = mid;
        }
        ask = kept;
        return lo < ask[3] ? NONE : lo;
    }
    public int most(int minute) {
        fit(ask != null && in(minute, 0, LAST));
        found.clear();
        int lo = 0, hi = 1_000_001;
        while (hi - lo > 1) {
            int mid = (lo + hi) / 2;
            if (leastEnd(chains(ask[0], ask[1], mid, ask[3], 5, List.of(), NONE, NONE)) <= minute) lo = mid;
            else hi = mid;
        }
        return lo;
    }
    public int bars(int account) {
        Account a = a(account);
        fit(ask != null);
        if (a.shut) return 1;
        if (freeOf(a) < ask[2] + feeOf(a, ask[2])) return 2;
        if (ask[2] > a.limit) return 3;
        int leaves = leavesFrom(a, ask[3], ask[2], null);
        return leaves == NONE ? 4 : arrivesWhen(a, leaves) == NONE ? 5 : 0;
    }
    public int soonest(int bank) {
        b(bank);
        fit(ask != null);
        found.clear();
        int least = NONE;
        for (Chain c : chains(ask[0], bank, ask[2], ask[3], 5, List.of(), NONE, NONE)) {
            if (least == NONE || c.end() < least) least = c.end();
        }
        return least;
    }
    public int fewest(int minute) {
        fit(ask != null && in(minute, 0, LAST));
        int least = NONE;
        for (Chain c : asked(NONE, NONE)) {
            if (c.end() <= minute && (least == NONE || c.accounts.size() < least)) least = c.accounts.size();
        }
        return least;
    }
    public int delay(int account) {
        a(account);
        fit(ask != null);
        int then = leastEnd(asked(account, NONE));
        return then == Integer.MAX_VALUE ? NONE : then - leastEnd(asked(NONE, NONE));
    }
    public long bankOf(int bank, int what) {
        b(bank);
        fit(in(what, 0, 4));
        long[] all = {b(bank), 0, 0, 0, 0};
        for (Account a : accounts) {
            if (a.to == bank) all[2]++;
            if (a.from == bank) { all[1]++; all[3] += a.balance; all[4] += held(a); }
        }
        return all[what];
    }
    public long shared(int payment, int other) {
        Payment y = y(payment), z = y(other);
        long bits = 0;
        for (Hop h : y.hops) for (Hop g : z.hops) if (h.account == g.account) bits |= 1L << h.account;
        return bits;
    }
    public long tiedUp(int payment) {
        Payment y = y(payment);
        long sum = 0;
        for (Hop h : y.hops) if (y.state == 0 && !h.left) sum += y.amount + h.fee;
        return sum;
    }
    public int days(int place, int from, int to) {
        Place p = p(place);
        fit(in(from, 0, 399) && to >= from && to <= 399);
        int n = 0;
        for (int d = from; d <= to; d++) if (business(p, d)) n++;
        return n;
    }
    public int until(int minute) {
        fit(in(minute, now, LAST));
        int n = 0;
        for (Payment y : payments) {
            for (Hop h : y.hops) {
                if (y.state == 0 && !h.left && h.leaves <= minute) n++;
                if (y.state == 2 && h.left && !h.isBack && h.back <= minute) n++;
            }
            if (y.state == 0 && y.end() <= minute) n++;
        }
        return n;
    }
    public long due(int bank, int day) {
        Place p = places.get(b(bank));
        fit(in(day, 0, 399));
        long sum = 0;
        for (Payment y : payments) if (y.state == 0 && y.last == bank && day(p, y.end()) == day) sum += y.amount;
        return sum;
    }
    public int needs(int account, int minute) {
        Account a = a(account);
        fit(ask != null && in(minute, 0, LAST));
        if (leastEnd(asked(NONE, NONE)) <= minute) return 0;
        if (leastEnd(asked(NONE, account)) > minute) return NONE;
        return ask[2] + feeOf(a, ask[2]) - freeOf(a);
    }
    public int without(int account) {
        a(account);
        fit(ask != null);
        return routes(asked(account, NONE)).size();
    }
    public long vital() {
        fit(ask != null);
        if (asked(NONE, NONE).isEmpty()) return 0;
        long bits = 0;
        for (Account a : accounts) if (asked(a.number, NONE).isEmpty()) bits |= 1L << a.number;
        return bits;
    }
    public int status(int what) {
        return what == 0 ? missing : what == 1 ? wrong : NONE;
    }
}
