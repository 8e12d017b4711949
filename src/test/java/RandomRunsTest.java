import java.lang.reflect.InvocationTargetException;
import java.lang.reflect.Method;
import java.util.ArrayList;
import java.util.HashMap;
import java.util.List;
import java.util.Map;
import java.util.Random;
import java.util.TreeMap;

/**
 * Makes the same random calls of AbroadRouter and of PlainRouter, and fails where they answer otherwise.
 * Arguments: how many runs, the first seed (both may be left out).
 */
public final class RandomRunsTest {
    private static final int LAST = 575_999;
    private static final int CALLS = 500;
    private static final Map<String, Method> FAST = methods(AbroadRouter.class);
    private static final Map<String, Method> PLAIN = methods(PlainRouter.class);
    private static final Map<String, int[]> SEEN = new TreeMap<>();

    private final Random random;
    private final AbroadRouter fast = new AbroadRouter();
    private final PlainRouter plain = new PlainRouter();
    private final List<String> told = new ArrayList<>();
    private final int kind;
    private int turns;
    private boolean failed;

    private RandomRunsTest(long seed) {
        random = new Random(seed);
        kind = (int) (seed % 12);
    }

    private static Map<String, Method> methods(Class<?> type) {
        Map<String, Method> all = new HashMap<>();
        for (Method m : type.getDeclaredMethods()) {
            if (java.lang.reflect.Modifier.isPublic(m.getModifiers())) {
                m.setAccessible(true);
                all.put(m.getName(), m);
            }
        }
        return all;
    }

    public static void main(String[] args) {
        int runs = args.length > 0 ? Integer.parseInt(args[0]) : 60;
        long seed = args.length > 1 ? Long.parseLong(args[1]) : 1;
        int wrong = 0;
        for (int i = 0; i < runs; i++) {
            RandomRunsTest run = new RandomRunsTest(seed + i);
            run.run();
            if (run.failed) {
                wrong++;
                System.out.println("seed " + (seed + i) + ":");
                for (String line : run.told) System.out.println("  " + line);
                if (wrong > 0) break;
            }
        }
        if (args.length > 2) SEEN.forEach((k, v) -> System.out.println(k + " answered " + v[0] + ", not -1/0: " + v[3] + ", missing " + v[1] + ", wrong " + v[2]));
        System.out.println(wrong == 0 ? runs + " random runs are as due" : "random runs are not as due");
        if (wrong != 0) System.exit(1);
    }

    private Object call(String name, Object... args) {
        Object one = answer(FAST.get(name), fast, args);
        Object two = answer(PLAIN.get(name), plain, args);
        StringBuilder text = new StringBuilder(name).append('(');
        for (int i = 0; i < args.length; i++) text.append(i == 0 ? "" : ", ").append(args[i]);
        text.append(") = ").append(one);
        if (!one.equals(two)) {
            failed = true;
            text.append(", due is ").append(two);
        }
        told.add(text.toString());
        int[] seen = SEEN.computeIfAbsent(name, k -> new int[4]);
        if (two.equals("NoSuchElementException")) seen[1]++;
        else if (two.equals("IllegalArgumentException")) seen[2]++;
        else {
            seen[0]++;
            if (!two.equals(-1) && !two.equals(0) && !two.equals(0L) && !two.equals(false)) seen[3]++;
        }
        return two;
    }

    private static Object answer(Method method, Object on, Object[] args) {
        try {
            return method.invoke(on, args);
        } catch (InvocationTargetException e) {
            return e.getCause().getClass().getSimpleName();
        } catch (IllegalAccessException e) {
            throw new IllegalStateException(e);
        }
    }

    private int upTo(int most) { return random.nextInt(most + 1); }
    private int from(int least, int most) { return least + random.nextInt(Math.max(1, most - least + 1)); }
    private int one(int... of) { return of[random.nextInt(of.length)]; }
    private boolean rarely() { return random.nextInt(40) == 0; }

    private int some(int count) {
        if (count == 0 || rarely()) return one(-1, count, count + 1, Integer.MAX_VALUE, Integer.MIN_VALUE);
        return random.nextInt(count);
    }
    private int place() { return some(plain.places.size()); }
    private int bank() { return some(plain.banks.size()); }
    private int account() {
        if (!plain.payments.isEmpty() && random.nextInt(3) == 0) {
            PlainRouter.Payment some = plain.payments.get(random.nextInt(plain.payments.size()));
            return some.hops.get(random.nextInt(some.hops.size())).account;
        }
        return some(plain.accounts.size());
    }
    private int payment() { return some(plain.payments.size()); }
    private int what(int most) { return rarely() ? one(-1, most + 1, Integer.MIN_VALUE) : upTo(most); }
    private int number(int least, int most) {
        if (rarely()) return one(least - 1, most + 1, least, most, Integer.MIN_VALUE, Integer.MAX_VALUE);
        return from(least, most);
    }
    private int minute() {
        if (rarely()) return one(-1, 0, LAST, LAST + 1, Integer.MAX_VALUE, Integer.MIN_VALUE);
        if (isEdgy() && random.nextInt(4) != 0) return edge();
        int pick = random.nextInt(10);
        int start = kind == 4 ? Math.max(plain.now, LAST - 20_000) : plain.now;
        if (pick == 0) return upTo(LAST);
        if (pick == 1) return from(LAST - 8_000, LAST);
        if (pick == 2) return Math.max(0, plain.now - upTo(1_500));
        return Math.min(LAST, start + upTo(pick < 6 ? 2_000 : 15_000));
    }
    /** Kinds of runs that look for the edges of days, hours, limits and of what is there. */
    private boolean isEdgy() { return kind >= 6 && kind < 8 && !plain.accounts.isEmpty(); }
    /** Kinds of runs that look for what befalls PAYMENTS of many HOPS on their way, every second one near LAST. */
    private boolean isOnTheWay() { return kind >= 8; }
    private boolean isOnTheWayLate() { return isOnTheWay() && kind % 2 == 1; }
    /** A MINUTE at which something begins or ends at the PLACE of an ACCOUNT, or one beside it. */
    private int edge() {
        PlainRouter.Account by = plain.accounts.get(random.nextInt(plain.accounts.size()));
        PlainRouter.Place at = plain.places.get(plain.banks.get(random.nextInt(3) == 0 ? by.from : by.to));
        int hour = one(0, 1_440, at.opens, at.shuts, by.cut, by.ready) + from(-1, 1);
        int day = Math.floorDiv(plain.now + at.offset, 1_440) + one(-1, 0, 0, 1, 1, 2, 5);
        if (plain.now > 380 * 1_440 && random.nextBoolean()) day = from(398, 400);
        return Math.max(0, Math.min(LAST, day * 1_440 + hour - at.offset));
    }
    /** An amount that is just enough, or just too much, for an ACCOUNT. */
    private int edgeAmount() {
        PlainRouter.Account by = plain.accounts.get(random.nextInt(plain.accounts.size()));
        int free = (Integer) answer(PLAIN.get("accountOf"), plain, new Object[] {by.number, 4});
        int used = (Integer) answer(PLAIN.get("busiest"), plain, new Object[] {by.number, 1});
        int most = one(by.limit, by.daily, by.daily - used, free - Math.min(by.most, Math.max(by.least, by.fix)), free);
        return Math.max(1, Math.min(1_000_000, most + from(-1, 1)));
    }
    private int coming() { return rarely() ? minute() : Math.max(plain.now, minute()); }
    private int deadline() {
        if (plain.ask == null || rarely()) return minute();
        if (random.nextInt(3) != 0) {
            Object end = answer(PLAIN.get("soonest"), plain, new Object[] {plain.ask[1]});
            if ((Integer) end >= 0) return Math.min(LAST, (Integer) end + one(-1, 0, 0, 1, 60, upTo(3_000)));
        }
        return Math.min(LAST, plain.ask[3] + upTo(random.nextBoolean() ? 4_000 : 25_000));
    }
    private int day() {
        if (rarely()) return number(0, 399);
        int around = plain.now / 1440;
        if (!plain.payments.isEmpty() && random.nextInt(3) == 0) {
            PlainRouter.Payment some = plain.payments.get(random.nextInt(plain.payments.size()));
            PlainRouter.Hop hop = some.hops.get(random.nextInt(some.hops.size()));
            return Math.min(399, (random.nextBoolean() ? hop.leaves : hop.arrives) / 1440 + one(0, 0, 0, 1));
        }
        return kind == 4 && random.nextBoolean() ? from(380, 399) : Math.min(399, Math.max(0, around + from(-1, 12)));
    }
    private int amount() {
        if (rarely()) return one(0, 1, 1_000_000, 1_000_001, -5);
        if (isEdgy() && random.nextInt(3) == 0) return edgeAmount();
        return random.nextInt(4) == 0 ? from(1, 200_000) : one(100, 300, 500, 999, 1_000, 5_000);
    }

    private void run() {
        if (isOnTheWay()) ladder();
        else world();
        while (!failed && told.size() < CALLS && turns < 5_000) {
            if (isOnTheWay()) turnOnTheWay();
            else turn();
        }
        for (int i = -1; i < 3 && !failed; i++) call("status", i);
    }

    private void world() {
        int places = kind == 0 ? 1 : from(2, 6);
        for (int i = 0; i < places && !failed; i++) newPlace();
        int banks = kind == 1 ? from(7, 16) : from(2, 6);
        for (int i = 0; i < banks && !failed; i++) call("bank", place());
        int accounts = kind == 1 ? from(18, 24) : kind == 2 ? from(10, 13) : from(5, 12);
        for (int i = 0; i < accounts && !failed; i++) newAccount();
        for (int i = 0; (kind == 5 || kind == 7) && i < 27 && !failed; i++) call("go", 20_160);
    }
    private void newPlace() {
        if (random.nextInt(3) != 0) {
            int least = one(0, 300, 480, from(0, 600));
            call("place", one(-300, -60, 0, 0, 60, 120, 480, from(-720, 840)), one(0, 96, 96, 48, 1), least, one(1_439, 1_080, from(least + 300, 1_439)));
            return;
        }
        int opens = random.nextInt(3) == 0 ? 0 : number(0, random.nextInt(5) == 0 ? 1_300 : 600);
        int shuts = random.nextInt(3) == 0 ? 1_439 : number(Math.max(1, opens + 1), 1_439);
        if (shuts <= opens && !rarely()) shuts = 1_439;
        int off = one(0, 96, 96, 65, 0, number(0, 126), 126, 63);
        call("place", random.nextInt(3) == 0 ? 0 : number(-720, 840), off, opens, shuts);
    }
    private void newAccount() {
        int from = bank(), to = bank();
        if (from == to && !rarely()) to = (from + 1) % Math.max(1, plain.banks.size());
        int lag = random.nextInt(3) == 0 ? number(0, 5) : upTo(2);
        Object made = call("account", from, to, number(random.nextInt(5) == 0 ? 0 : 700, 1_439), lag,
                random.nextInt(3) == 0 ? 0 : number(0, 1_439));
        if (!(made instanceof Integer) || (Integer) made < 0) return;
        if (random.nextInt(12) != 0) call("fund", made, one(1_000, 10_000, 400_000, 400_000, 9_999_999));
        if (random.nextBoolean()) newTerms((Integer) made);
        if (random.nextInt(3) == 0) newLimits((Integer) made);
    }
    private void newTerms(int account) {
        int least = random.nextInt(3) == 0 ? number(0, 40) : 0;
        call("terms", account, random.nextInt(4) == 0 ? number(0, 9_999) : one(0, 5, 10, 20), one(0, 0, 1, 5, number(0, 100)),
                least, random.nextInt(3) == 0 ? number(Math.max(0, least), 100) : 99_999);
    }
    private void newLimits(int account) {
        call("limits", account, one(1_000_000, 1_000_000, 1_000, 500, 0, number(0, 1_000_000)),
                one(9_999_999, 1_000, 1_500, 600, number(0, 9_999_999)));
    }

    /** BANKS in a row, with a soon and a cheap ACCOUNT from each to the next, and some that skip one. */
    private void ladder() {
        for (int i = from(2, 3); i > 0; i--) {
            call("place", one(-300, -60, 0, 60, 200), one(0, 0, 96, 1), one(0, 300, 480), one(1_080, 1_200, 1_439));
        }
        int banks = from(5, 7);
        for (int i = 0; i < banks; i++) call("bank", random.nextInt(plain.places.size()));
        for (int i = 0; i + 1 < banks; i++) {
            rung(i, i + 1, upTo(1), one(5, 10, 20));
            rung(i, i + 1, from(1, 2), one(0, 0, 3));
            if (i + 2 < banks && random.nextInt(3) == 0) rung(i, i + 2, from(1, 3), one(4, 15));
        }
        for (int i = 0; isOnTheWayLate() && i < 27; i++) call("go", 20_160);
    }
    private void rung(int from, int to, int lag, int fix) {
        Object made = call("account", from, to, one(900, 1_200, 1_439), lag, one(0, 400, 600, 1_000));
        call("fund", made, one(3_000, 400_000, 400_000));
        call("terms", made, fix, 0, 0, 99_999);
        if (random.nextInt(3) == 0) call("limits", made, 1_000_000, one(1_000, 1_500, 3_000));
    }
    private void turnOnTheWay() {
        turns++;
        int pick = random.nextInt(100);
        if (pick < 14) payLongWay();
        else if (pick < 34) toNext();
        else if (pick < 44) holidayOnTheWay();
        else if (pick < 52) rerouteAll();
        else if (pick < 56) refuseOnTheWay();
        else if (pick < 60) call("shut", account(), random.nextInt(3) == 0);
        else if (pick < 63) change();
        else if (pick < 66) call("go", one(1, 60, 300, 700));
        else if (pick < 75) look();
        else if (pick < 97) lookAtPayments();
        else lookAtAsk();
    }
    private void payLongWay() {
        int banks = plain.banks.size();
        int minute = isOnTheWayLate() ? Math.max(plain.now, LAST - from(0, 20_000)) : Math.min(LAST, plain.now + upTo(1_500));
        call("ask", upTo(1), banks - 1 - upTo(1), one(300, 500, 999, 1_000), minute);
        int routes = routesNow();
        if (routes > 0) call("pay", random.nextBoolean() ? routes - 1 : random.nextInt(routes));
    }
    private int onTheWay() {
        int count = plain.payments.size();
        int first = count == 0 ? 0 : random.nextInt(count);
        for (int i = 0; i < count; i++) {
            PlainRouter.Payment some = plain.payments.get((first + i) % count);
            if (some.state == 0 && some.hops.get(0).left || some.state == 2) return (first + i) % count;
        }
        return payment();
    }
    private void holidayOnTheWay() {
        int number = onTheWay();
        if (number < 0 || number >= plain.payments.size()) return;
        PlainRouter.Payment some = plain.payments.get(number);
        PlainRouter.Hop hop = some.hops.get(random.nextInt(some.hops.size()));
        PlainRouter.Account by = plain.accounts.get(hop.account);
        int place = plain.banks.get(random.nextInt(3) == 0 ? by.from : by.to);
        int minute = hop.back >= 0 ? hop.back : random.nextBoolean() ? hop.leaves : hop.arrives;
        int day = Math.floorDiv(minute + plain.places.get(place).offset, 1_440) + one(0, 0, 0, 1);
        call("holiday", place, day);
        lookAt(number);
    }
    private void rerouteAll() {
        for (int i = 0; i < plain.payments.size() && !failed; i++) {
            if (plain.payments.get(i).state == 0 && random.nextInt(3) != 0) call("reroute", i);
        }
    }
    private void refuseOnTheWay() {
        int number = onTheWay();
        call("refuse", number);
        lookAt(number);
    }
    private void lookAt(int payment) {
        if (payment < 0 || payment >= plain.payments.size()) return;
        for (int w = 0; w < 9 && !failed; w++) call("payment", payment, w);
        allLegs(payment);
    }

    private void turn() {
        turns++;
        int pick = random.nextInt(100);
        if (pick < 12) newAsk();
        else if (pick < 24) call("pay", random.nextInt(3) == 0 ? upTo(2) : some(routesNow()));
        else if (pick < 30) change();
        else if (pick < 45) move();
        else if (pick < 64) look();
        else if (pick < 80) lookAtPayments();
        else lookAtAsk();
    }
    private void newAsk() {
        int from = bank(), to = bank();
        if (!plain.accounts.isEmpty() && !rarely()) {
            PlainRouter.Account first = plain.accounts.get(random.nextInt(plain.accounts.size()));
            from = first.from;
            to = first.to;
            for (int i = random.nextInt(6); i > 0; i--) {
                PlainRouter.Account more = plain.accounts.get(random.nextInt(plain.accounts.size()));
                if (more.from == to && more.to != from) to = more.to;
            }
        }
        call("ask", from, to, amount(), random.nextInt(6) == 0 ? minute() : coming());
        int routes = routesNow();
        for (int k = 0; k < routes && !failed; k++) {
            int length = (Integer) call("route", k, 2);
            call("route", k, upTo(1));
            for (int i = 0; i < length && !failed; i++) call("step", k, i, random.nextBoolean() ? 0 : what(4));
        }
    }
    private int routesNow() {
        if (plain.ask == null) return 0;
        return (Integer) answer(PLAIN.get("ask"), plain, new Object[] {plain.ask[0], plain.ask[1], plain.ask[2], plain.ask[3]});
    }
    private void change() {
        switch (random.nextInt(9)) {
            case 0: newTerms(account()); break;
            case 1: newLimits(account()); break;
            case 2: call("fund", account(), number(1, 9_999_999)); break;
            case 3:
                int rich = account();
                if (rich >= 0 && rich < plain.accounts.size() && random.nextBoolean()) {
                    int free = (Integer) call("accountOf", rich, 4);
                    call("draw", rich, Math.max(1, Math.min(9_999_999, free - one(-1, 0, 0, 99, 1_000))));
                    break;
                }
                call("draw", rich, one(100, 1_000, number(1, 9_999_999), number(1, 20_000))); break;
            case 4: case 5: call("shut", account(), random.nextInt(3) == 0); break;
            case 6: if (random.nextInt(3) == 0) newPlace(); break;
            case 7: if (random.nextInt(3) == 0) call("bank", place()); break;
            default: if (random.nextInt(2) == 0 && plain.accounts.size() < 20) newAccount();
        }
    }
    private void move() {
        switch (random.nextInt(6)) {
            case 0: if (random.nextInt(3) != 0) { toNext(); break; }
            case 1: call("go", rarely() ? one(0, -1, 20_161, 20_160) : one(1, 60, 300, 700, 1_440, upTo(3_000) + 1)); break;
            case 2: call("refuse", payment()); break;
            case 3:
                for (int i = 0; i < plain.payments.size() && !failed; i++) {
                    if (plain.payments.get(i).state == 0 && random.nextBoolean()) call("reroute", i);
                }
                call("reroute", payment());
                break;
            default:
                call("holiday", place(), day());
                if (random.nextInt(2) == 0) toNext();
        }
    }
    /** Up to the very minute at which something happens, or one short of it. */
    private void toNext() {
        int next = (Integer) call("told", 9);
        int by = next - plain.now - random.nextInt(2);
        if (by >= 1 && by <= 20_160) call("go", by);
    }
    private void look() {
        switch (random.nextInt(18)) {
            case 0: call("told", what(9)); break;
            case 1: call("placeOf", place(), what(7)); break;
            case 2: call("accountOf", account(), what(12)); break;
            case 3: lookAtUsed(); break;
            case 4: call("fee", account(), amount()); break;
            case 5: call("open", place(), minute()); break;
            case 6: call("next", place(), minute()); break;
            case 7: call("after", place(), day(), number(0, 20)); break;
            case 8: call("idle", place(), day()); break;
            case 9: call("hours", account(), day()); break;
            case 10: call("busiest", account(), what(1)); break;
            case 11: call("tied", account()); break;
            case 12:
                int of = account();
                int lines = of < 0 || of >= plain.accounts.size() ? 1 : plain.accounts.get(of).lines.size();
                for (int k = 0; k < lines && !failed; k++) call("line", of, k, what(4));
                call("line", of, one(-1, lines, 12, upTo(11)), what(4));
                break;
            case 13: call("forecast", account(), coming()); break;
            case 14: call("lowest", account(), what(1)); break;
            case 15: call("leaves", account(), minute(), amount()); break;
            case 16: call("arrives", account(), minute(), amount()); break;
            default:
                int day = day();
                call("days", place(), day, number(Math.min(398, day), 399));
        }
    }
    private void lookAtUsed() {
        if (plain.payments.isEmpty() || random.nextInt(3) == 0) {
            call("used", account(), day());
            return;
        }
        PlainRouter.Payment some = plain.payments.get(random.nextInt(plain.payments.size()));
        PlainRouter.Hop hop = some.hops.get(random.nextInt(some.hops.size()));
        PlainRouter.Place far = plain.places.get(plain.banks.get(plain.accounts.get(hop.account).to));
        int day = Math.floorDiv(hop.leaves + far.offset, 1440);
        call("used", hop.account, day);
        call("hours", hop.account, day);
        call("busiest", hop.account, what(1));
        PlainRouter.Place last = plain.places.get(plain.banks.get(some.last));
        call("due", some.last, Math.floorDiv(some.end() + last.offset, 1440));
    }
    private void lookAtPayments() {
        if (plain.payments.isEmpty() && !rarely()) return;
        switch (random.nextInt(8)) {
            case 0: case 1:
                int number = payment();
                for (int w = 0; w < 9; w++) call("payment", number, w);
                break;
            case 2: call("leg", payment(), random.nextInt(4) == 0 ? number(0, 4) : upTo(1), what(6)); break;
            case 3: call("late", payment()); break;
            case 4: call("shared", payment(), payment()); break;
            case 5: call("tiedUp", payment()); break;
            case 6: call("until", coming()); break;
            default: call("due", bank(), day());
        }
        if (random.nextInt(4) == 0 && !plain.payments.isEmpty()) allLegs(random.nextInt(plain.payments.size()));
    }
    private void allLegs(int payment) {
        for (int hop = 0; hop < plain.payments.get(payment).hops.size() && !failed; hop++) {
            for (int w = 0; w < 7 && !failed; w++) call("leg", payment, hop, w);
        }
    }
    private void lookAtAsk() {
        switch (random.nextInt(13)) {
            case 0: call("reach", bank(), amount(), minute()); break;
            case 1: call("cheapest", deadline()); break;
            case 2: call("latest", deadline()); break;
            case 3: call("most", deadline()); break;
            case 4: call("bars", account()); break;
            case 5: call("soonest", bank()); break;
            case 6: call("fewest", deadline()); break;
            case 7: call("delay", account()); break;
            case 8: call("bankOf", bank(), what(4)); break;
            case 9:
                int by = random.nextBoolean() ? LAST : deadline();
                for (int i = 0; i < plain.accounts.size() && !failed; i++) call("needs", i, by);
                call("needs", account(), deadline());
                break;
            case 10: call("without", account()); break;
            case 11: call("vital"); break;
            default: call("route", upTo(3), what(2));
        }
    }
}
