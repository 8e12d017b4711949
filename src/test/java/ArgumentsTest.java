import java.util.NoSuchElementException;
import java.util.function.Supplier;

/**
 * "IllegalArgumentException: another argument (so below)", "NoSuchElementException: no such PLACE, BANK, ACCOUNT,
 * ROUTE, PAYMENT, HOP (so below, ahead of others)", and without an ASK: of each call each argument, one too small
 * and one too large, and as far off as an int goes; the least and the greatest one fit. A call that is refused does
 * nothing, and counts once.
 */
public final class ArgumentsTest extends Checks {
    private interface On { long call(AbroadRouter x, int v); }
    private interface Act { long call(AbroadRouter x); }

    private static final int PLACES = 3;
    private static final int BANKS = 4;
    private static final int ACCOUNTS = 6;
    private static final int PAYMENTS = 5;
    private static final int NOW = 700;
    private static final Supplier<AbroadRouter> RICH = ArgumentsTest::rich;
    private static final Supplier<AbroadRouter> UNASKED = ArgumentsTest::unasked;

    // ---- worlds, and all that can be seen of one ----

    /** PLACES, BANKS and ACCOUNTS; no ASK, no PAYMENT. */
    private static AbroadRouter unasked() {
        AbroadRouter x = new AbroadRouter();
        x.place(0, 0, 0, 1439);
        x.place(120, 96, 480, 1080);
        x.place(-300, 0, 0, 1439);
        x.bank(0);
        x.bank(1);
        x.bank(2);
        x.bank(0);
        x.account(0, 1, 1000, 0, 900);
        x.account(1, 2, 1439, 1, 600);
        x.account(0, 2, 1439, 2, 100);
        x.account(0, 3, 1439, 0, 0);
        x.account(3, 2, 1439, 2, 1400);
        x.account(2, 0, 0, 5, 1439);
        for (int i = 0; i < 5; i++) x.fund(i, 100_000);
        x.terms(0, 9, 1, 10, 5_000);
        x.terms(1, 9, 0, 0, 99_999);
        x.holiday(1, 9);
        return x;
    }
    /** Also an ASK with ROUTES, and a PAYMENT in each state there is; one BOOKED has a HOP that LEFT. */
    private static AbroadRouter rich() {
        AbroadRouter x = unasked();
        booked(x, 0, 3, 100, 0);
        booked(x, 0, 1, 200, 1_000);
        booked(x, 0, 2, 300, 1_000);
        x.ask(0, 2, 400, 300);
        x.pay(1);
        booked(x, 0, 2, 500, 600);
        x.refuse(2);
        x.go(NOW);
        x.draw(2, 50);
        x.refuse(3);
        x.ask(0, 2, 1_000, 710);
        return x;
    }
    /** All that can be seen of a world but what was refused; an object's 512 calls are enough for it. */
    private static String all(AbroadRouter x) {
        StringBuilder text = new StringBuilder();
        for (int what = 0; what <= 9; what++) text.append(x.told(what)).append(' ');
        for (int place = 0; place < x.told(1); place++) {
            for (int what = 0; what <= 7; what++) text.append(x.placeOf(place, what)).append(' ');
            text.append(x.days(place, 0, 399)).append(' ');
        }
        for (int bank = 0; bank < x.told(2); bank++) text.append(x.bankOf(bank, 0)).append(' ');
        for (int account = 0; account < x.told(3); account++) {
            for (int what = 0; what <= 12; what++) text.append(x.accountOf(account, what)).append(' ');
            text.append(x.fee(account, 1)).append(' ').append(x.fee(account, 900_000)).append(' ');
            text.append(x.busiest(account, 0)).append(' ').append(x.busiest(account, 1)).append(' ');
            text.append(x.lowest(account, 0)).append(' ').append(x.lowest(account, 1)).append(' ');
            text.append(x.tied(account)).append(' ');
        }
        for (int account = 0; account < 5; account++) text.append(x.line(account, 0, 3)).append(' ');
        for (int payment = 0; payment < x.told(4); payment++) {
            for (int what = 0; what <= 8; what++) text.append(x.payment(payment, what)).append(' ');
            for (int hop = 0; hop < x.payment(payment, 3); hop++) {
                for (int what = 0; what <= 6; what++) text.append(x.leg(payment, hop, what)).append(' ');
            }
        }
        return text.append(asked(x)).toString();
    }
    /** What is told of the ASK. */
    private static String asked(AbroadRouter x) {
        StringBuilder text = new StringBuilder("ask ");
        try {
            text.append(x.cheapest(LAST)).append(' ').append(x.vital());
        } catch (IllegalArgumentException e) {
            return "no ask";
        }
        int routes = x.without(5);
        for (int k = 0; k < routes; k++) {
            for (int what = 0; what <= 2; what++) text.append(' ').append(x.route(k, what));
            for (int i = 0; i < x.route(k, 2); i++) {
                for (int what = 0; what <= 4; what++) text.append(' ').append(x.step(k, i, what));
            }
        }
        return text.toString();
    }

    // ---- how arguments are tried ----

    /** What is refused does nothing, and counts once, by its reason. */
    private static void refused(Supplier<AbroadRouter> world, Act act, Class<?> want) {
        AbroadRouter x = world.get();
        throwing(() -> act.call(x), want);
        boolean missing = want == NoSuchElementException.class;
        due(() -> x.status(0), missing ? 1 : 0);
        due(() -> x.status(1), missing ? 0 : 1);
        checks++;
        if (!all(x).equals(all(world.get()))) say("refused, it did something");
    }
    private static void wrongOn(Supplier<AbroadRouter> world, Act act) {
        refused(world, act, IllegalArgumentException.class);
    }
    private static void missingOn(Supplier<AbroadRouter> world, Act act) {
        refused(world, act, NoSuchElementException.class);
    }
    private static void fits(On on, int v) {
        AbroadRouter x = rich();
        checks++;
        try {
            on.call(x, v);
        } catch (RuntimeException e) {
            say("threw " + e + " for " + v + ", which fits");
        }
        due(() -> x.status(0) + x.status(1), 0);
    }
    /** An argument from one number to another: IllegalArgumentException beyond. */
    private static void range(int least, int most, On on) {
        fits(on, least);
        fits(on, most);
        wrongOn(RICH, x -> on.call(x, least - 1));
        wrongOn(RICH, x -> on.call(x, most + 1));
        wrongOn(RICH, x -> on.call(x, LEAST_INT));
        wrongOn(RICH, x -> on.call(x, MOST_INT));
    }
    /** The number of one of so many: NoSuchElementException beyond. */
    private static void number(int count, On on) {
        fits(on, 0);
        fits(on, count - 1);
        noNumber(count, on);
    }
    /** No such one, whatever the other arguments are. */
    private static void noNumber(int count, On on) {
        missingOn(RICH, x -> on.call(x, -1));
        missingOn(RICH, x -> on.call(x, count));
        missingOn(RICH, x -> on.call(x, LEAST_INT));
        missingOn(RICH, x -> on.call(x, MOST_INT));
    }
    private static void promise(int number, String name) { about = "promise " + number + ", " + name; }

    public static void main(String[] args) {
        worlds();
        making();
        changing();
        askingRoutes();
        payments();
        standing();
        looking();
        moneyAndTimes();
        guessing();
        guessingByAccounts();
        others();
        asking();
        System.out.println(checks + " checks of arguments, " + wrongs + " not as due");
        if (wrongs != 0) System.exit(1);
    }

    /** The worlds are as the tests below take them. */
    private static void worlds() {
        about = "the world of the tests";
        AbroadRouter x = rich();
        due(() -> x.told(0), NOW);
        due(() -> x.told(1), PLACES);
        due(() -> x.told(2), BANKS);
        due(() -> x.told(3), ACCOUNTS);
        due(() -> x.told(4), PAYMENTS);
        long[] states = {1, 0, 3, 2, 0};
        for (int i = 0; i < PAYMENTS; i++) { int p = i; due(() -> x.payment(p, 0), states[p]); }
        due(() -> x.payment(4, 4), 1);
        due(() -> x.payment(4, 3), 2);
        due(() -> x.route(1, 2), 1);
        missing(() -> x.route(2, 0));
        due(() -> x.route(0, 2), 2);
    }

    private static void making() {
        promise(2, "place");
        range(-720, 840, (x, v) -> x.place(v, 0, 0, 1439));
        range(0, 126, (x, v) -> x.place(0, v, 0, 1439));
        range(0, 1438, (x, v) -> x.place(0, 0, v, 1439));
        range(1, 1439, (x, v) -> x.place(0, 0, 0, v));
        range(701, 1439, (x, v) -> x.place(0, 0, 700, v));
        range(1439, 1439, (x, v) -> x.place(0, 0, 1438, v));
        wrongOn(RICH, x -> x.place(0, 0, 1439, 1440));
        wrongOn(RICH, x -> x.place(0, 0, MOST_INT, LEAST_INT));
        promise(3, "holiday");
        number(PLACES, (x, v) -> x.holiday(v, 300));
        noNumber(PLACES, (x, v) -> x.holiday(v, 400));
        range(0, 399, (x, v) -> x.holiday(0, v));
        promise(4, "bank");
        number(PLACES, (x, v) -> x.bank(v));
        promise(5, "account");
        number(BANKS, (x, v) -> x.account(v, 1, 0, 0, 0));
        number(BANKS, (x, v) -> x.account(1, v, 0, 0, 0));
        noNumber(BANKS, (x, v) -> x.account(v, v, -1, -1, -1));
        noNumber(BANKS, (x, v) -> x.account(v, 0, 1440, 6, 1440));
        noNumber(BANKS, (x, v) -> x.account(0, v, 1440, 6, 1440));
        for (int i = 0; i < BANKS; i++) { int bank = i; wrongOn(RICH, x -> x.account(bank, bank, 0, 0, 0)); }
        range(0, 1439, (x, v) -> x.account(0, 1, v, 0, 0));
        range(0, 5, (x, v) -> x.account(0, 1, 0, v, 0));
        range(0, 1439, (x, v) -> x.account(0, 1, 0, 0, v));
    }

    private static void changing() {
        promise(6, "terms");
        number(ACCOUNTS, (x, v) -> x.terms(v, 0, 0, 0, 0));
        noNumber(ACCOUNTS, (x, v) -> x.terms(v, -1, 101, 3, 2));
        range(0, 9_999, (x, v) -> x.terms(0, v, 0, 0, 0));
        range(0, 100, (x, v) -> x.terms(0, 0, v, 0, 0));
        range(0, 99_999, (x, v) -> x.terms(0, 0, 0, v, 99_999));
        range(0, 50, (x, v) -> x.terms(0, 0, 0, v, 50));
        range(0, 99_999, (x, v) -> x.terms(0, 0, 0, 0, v));
        range(50, 99_999, (x, v) -> x.terms(0, 0, 0, 50, v));
        range(99_999, 99_999, (x, v) -> x.terms(0, 0, 0, 99_999, v));
        wrongOn(RICH, x -> x.terms(0, 0, 0, 100_000, 100_000));
        promise(7, "limits");
        number(ACCOUNTS, (x, v) -> x.limits(v, 0, 0));
        noNumber(ACCOUNTS, (x, v) -> x.limits(v, -1, -1));
        range(0, 1_000_000, (x, v) -> x.limits(0, v, 0));
        range(0, 9_999_999, (x, v) -> x.limits(0, 0, v));
        promise(8, "fund");
        number(ACCOUNTS, (x, v) -> x.fund(v, 1));
        noNumber(ACCOUNTS, (x, v) -> x.fund(v, 0));
        range(1, 9_999_999, (x, v) -> x.fund(0, v));
        promise(9, "draw");
        number(ACCOUNTS, (x, v) -> x.draw(v, 1));
        noNumber(ACCOUNTS, (x, v) -> x.draw(v, 0));
        range(1, 9_999_999, (x, v) -> x.draw(0, v));
        promise(10, "shut");
        number(ACCOUNTS, (x, v) -> bit(x.shut(v, true)));
        number(ACCOUNTS, (x, v) -> bit(x.shut(v, false)));
        promise(11, "go");
        range(1, 20_160, (x, v) -> x.go(v));
    }

    private static void askingRoutes() {
        promise(12, "ask");
        number(BANKS, (x, v) -> x.ask(v, 1, 1, 0));
        number(BANKS, (x, v) -> x.ask(1, v, 1, 0));
        noNumber(BANKS, (x, v) -> x.ask(v, v, 0, -1));
        noNumber(BANKS, (x, v) -> x.ask(v, 0, 1_000_001, LAST + 1));
        noNumber(BANKS, (x, v) -> x.ask(0, v, 1_000_001, LAST + 1));
        for (int i = 0; i < BANKS; i++) { int bank = i; wrongOn(RICH, x -> x.ask(bank, bank, 1, 0)); }
        range(1, 1_000_000, (x, v) -> x.ask(0, 1, v, 0));
        range(0, LAST, (x, v) -> x.ask(0, 1, 1, v));
        wrongOn(UNASKED, x -> x.ask(0, 0, 1, 0));
        missingOn(UNASKED, x -> x.ask(0, 4, 1, 0));
        promise(13, "route");
        number(2, (x, v) -> x.route(v, 0));
        noNumber(2, (x, v) -> x.route(v, 3));
        range(0, 2, (x, v) -> x.route(0, v));
        missingOn(UNASKED, x -> x.route(0, 0));
        missingOn(UNASKED, x -> x.route(0, 3));
        promise(14, "step");
        number(2, (x, v) -> x.step(v, 0, 0));
        noNumber(2, (x, v) -> x.step(v, 0, 5));
        number(2, (x, v) -> x.step(0, v, 0));
        number(1, (x, v) -> x.step(1, v, 0));
        noNumber(2, (x, v) -> x.step(0, v, 5));
        range(0, 4, (x, v) -> x.step(0, 0, v));
        missingOn(UNASKED, x -> x.step(0, 0, 0));
        missingOn(UNASKED, x -> x.step(0, 0, 5));
        promise(15, "pay");
        number(2, (x, v) -> x.pay(v));
        missingOn(UNASKED, x -> x.pay(0));
    }

    private static void payments() {
        promise(16, "refuse");
        number(PAYMENTS, (x, v) -> x.refuse(v));
        missingOn(UNASKED, x -> x.refuse(0));
        promise(17, "reroute");
        number(PAYMENTS, (x, v) -> x.reroute(v));
        missingOn(UNASKED, x -> x.reroute(0));
        promise(21, "payment");
        number(PAYMENTS, (x, v) -> x.payment(v, 0));
        noNumber(PAYMENTS, (x, v) -> x.payment(v, 9));
        range(0, 8, (x, v) -> x.payment(0, v));
        missingOn(UNASKED, x -> x.payment(0, 0));
        promise(22, "leg");
        number(PAYMENTS, (x, v) -> x.leg(v, 0, 0));
        noNumber(PAYMENTS, (x, v) -> x.leg(v, 0, 7));
        number(2, (x, v) -> x.leg(4, v, 0));
        number(1, (x, v) -> x.leg(0, v, 0));
        noNumber(2, (x, v) -> x.leg(4, v, 7));
        range(0, 6, (x, v) -> x.leg(0, 0, v));
        missingOn(UNASKED, x -> x.leg(0, 0, 0));
        promise(35, "late");
        number(PAYMENTS, (x, v) -> x.late(v));
        promise(47, "shared");
        number(PAYMENTS, (x, v) -> x.shared(v, 0));
        number(PAYMENTS, (x, v) -> x.shared(0, v));
        noNumber(PAYMENTS, (x, v) -> x.shared(v, v));
        promise(48, "tiedUp");
        number(PAYMENTS, (x, v) -> x.tiedUp(v));
        missingOn(UNASKED, x -> x.tiedUp(0));
    }

    private static void standing() {
        promise(18, "told");
        range(0, 9, (x, v) -> x.told(v));
        promise(19, "placeOf");
        number(PLACES, (x, v) -> x.placeOf(v, 0));
        noNumber(PLACES, (x, v) -> x.placeOf(v, 8));
        range(0, 7, (x, v) -> x.placeOf(0, v));
        promise(20, "accountOf");
        number(ACCOUNTS, (x, v) -> x.accountOf(v, 0));
        noNumber(ACCOUNTS, (x, v) -> x.accountOf(v, 13));
        range(0, 12, (x, v) -> x.accountOf(0, v));
        promise(23, "used");
        number(ACCOUNTS, (x, v) -> x.used(v, 0));
        noNumber(ACCOUNTS, (x, v) -> x.used(v, 400));
        range(0, 399, (x, v) -> x.used(0, v));
        promise(24, "fee");
        number(ACCOUNTS, (x, v) -> x.fee(v, 1));
        noNumber(ACCOUNTS, (x, v) -> x.fee(v, 0));
        range(1, 1_000_000, (x, v) -> x.fee(0, v));
    }

    private static void looking() {
        promise(25, "open");
        number(PLACES, (x, v) -> bit(x.open(v, 0)));
        noNumber(PLACES, (x, v) -> bit(x.open(v, -1)));
        range(0, LAST, (x, v) -> bit(x.open(0, v)));
        promise(26, "next");
        number(PLACES, (x, v) -> x.next(v, 0));
        noNumber(PLACES, (x, v) -> x.next(v, -1));
        range(0, LAST, (x, v) -> x.next(0, v));
        promise(27, "after");
        number(PLACES, (x, v) -> x.after(v, 0, 0));
        noNumber(PLACES, (x, v) -> x.after(v, 400, 21));
        range(0, 399, (x, v) -> x.after(0, v, 0));
        range(0, 399, (x, v) -> x.after(0, v, 20));
        range(0, 20, (x, v) -> x.after(0, 0, v));
        promise(28, "idle");
        number(PLACES, (x, v) -> x.idle(v, 0));
        noNumber(PLACES, (x, v) -> x.idle(v, 400));
        range(0, 399, (x, v) -> x.idle(0, v));
        promise(29, "hours");
        number(ACCOUNTS, (x, v) -> x.hours(v, 0));
        noNumber(ACCOUNTS, (x, v) -> x.hours(v, 400));
        range(0, 399, (x, v) -> x.hours(0, v));
        promise(49, "days");
        number(PLACES, (x, v) -> x.days(v, 0, 0));
        noNumber(PLACES, (x, v) -> x.days(v, 1, 0));
        range(0, 399, (x, v) -> x.days(0, v, 399));
        range(0, 7, (x, v) -> x.days(0, v, 7));
        range(7, 399, (x, v) -> x.days(0, 7, v));
        range(399, 399, (x, v) -> x.days(0, 399, v));
        wrongOn(RICH, x -> x.days(0, 400, 400));
        wrongOn(RICH, x -> x.days(0, -1, -1));
    }

    private static void moneyAndTimes() {
        promise(30, "busiest");
        number(ACCOUNTS, (x, v) -> x.busiest(v, 0));
        noNumber(ACCOUNTS, (x, v) -> x.busiest(v, 2));
        range(0, 1, (x, v) -> x.busiest(0, v));
        promise(31, "tied");
        number(ACCOUNTS, (x, v) -> x.tied(v));
        promise(32, "line");
        number(5, (x, v) -> x.line(v, 0, 0));
        missingOn(RICH, x -> x.line(5, 0, 0));
        noNumber(ACCOUNTS, (x, v) -> x.line(v, 0, 5));
        number(3, (x, v) -> x.line(2, v, 0));
        noNumber(3, (x, v) -> x.line(2, v, 5));
        range(0, 4, (x, v) -> x.line(0, 0, v));
        promise(33, "forecast");
        number(ACCOUNTS, (x, v) -> x.forecast(v, NOW));
        noNumber(ACCOUNTS, (x, v) -> x.forecast(v, NOW - 1));
        range(NOW, LAST, (x, v) -> x.forecast(0, v));
        promise(34, "lowest");
        number(ACCOUNTS, (x, v) -> x.lowest(v, 0));
        noNumber(ACCOUNTS, (x, v) -> x.lowest(v, 2));
        range(0, 1, (x, v) -> x.lowest(0, v));
        promise(36, "leaves");
        number(ACCOUNTS, (x, v) -> x.leaves(v, 0, 1));
        noNumber(ACCOUNTS, (x, v) -> x.leaves(v, -1, 0));
        range(0, LAST, (x, v) -> x.leaves(0, v, 1));
        range(1, 1_000_000, (x, v) -> x.leaves(0, 0, v));
        promise(37, "arrives");
        number(ACCOUNTS, (x, v) -> x.arrives(v, 0, 1));
        noNumber(ACCOUNTS, (x, v) -> x.arrives(v, -1, 0));
        range(0, LAST, (x, v) -> x.arrives(0, v, 1));
        range(1, 1_000_000, (x, v) -> x.arrives(0, 0, v));
    }

    private static void guessing() {
        promise(38, "reach");
        number(BANKS, (x, v) -> x.reach(v, 1, 0));
        noNumber(BANKS, (x, v) -> x.reach(v, 0, -1));
        range(1, 1_000_000, (x, v) -> x.reach(0, v, 0));
        range(0, LAST, (x, v) -> x.reach(0, 1, v));
        promise(39, "cheapest");
        range(0, LAST, (x, v) -> x.cheapest(v));
        wrongOn(UNASKED, x -> x.cheapest(0));
        wrongOn(UNASKED, x -> x.cheapest(-1));
        promise(40, "latest");
        range(0, LAST, (x, v) -> x.latest(v));
        wrongOn(UNASKED, x -> x.latest(LAST));
        wrongOn(UNASKED, x -> x.latest(LAST + 1));
        promise(41, "most");
        range(0, LAST, (x, v) -> x.most(v));
        wrongOn(UNASKED, x -> x.most(LAST));
        promise(44, "fewest");
        range(0, LAST, (x, v) -> x.fewest(v));
        wrongOn(UNASKED, x -> x.fewest(LAST));
        promise(54, "vital");
        wrongOn(UNASKED, x -> x.vital());
    }

    private static void guessingByAccounts() {
        promise(42, "bars");
        number(ACCOUNTS, (x, v) -> x.bars(v));
        wrongOn(UNASKED, x -> x.bars(0));
        missingOn(UNASKED, x -> x.bars(ACCOUNTS));
        promise(43, "soonest");
        number(BANKS, (x, v) -> x.soonest(v));
        wrongOn(UNASKED, x -> x.soonest(0));
        missingOn(UNASKED, x -> x.soonest(BANKS));
        promise(45, "delay");
        number(ACCOUNTS, (x, v) -> x.delay(v));
        wrongOn(UNASKED, x -> x.delay(0));
        missingOn(UNASKED, x -> x.delay(ACCOUNTS));
        promise(52, "needs");
        number(ACCOUNTS, (x, v) -> x.needs(v, 0));
        noNumber(ACCOUNTS, (x, v) -> x.needs(v, -1));
        range(0, LAST, (x, v) -> x.needs(0, v));
        wrongOn(UNASKED, x -> x.needs(0, 0));
        missingOn(UNASKED, x -> x.needs(ACCOUNTS, 0));
        promise(53, "without");
        number(ACCOUNTS, (x, v) -> x.without(v));
        wrongOn(UNASKED, x -> x.without(0));
        missingOn(UNASKED, x -> x.without(ACCOUNTS));
    }

    private static void others() {
        promise(46, "bankOf");
        number(BANKS, (x, v) -> x.bankOf(v, 0));
        noNumber(BANKS, (x, v) -> x.bankOf(v, 5));
        range(0, 4, (x, v) -> x.bankOf(0, v));
        promise(50, "until");
        range(NOW, LAST, (x, v) -> x.until(v));
        promise(51, "due");
        number(BANKS, (x, v) -> x.due(v, 0));
        noNumber(BANKS, (x, v) -> x.due(v, 400));
        range(0, 399, (x, v) -> x.due(0, v));
        promise(55, "status");
        for (int what : new int[] {0, 1, 2, -1, LEAST_INT, MOST_INT}) {
            AbroadRouter x = rich();
            due(() -> x.status(what), what == 0 || what == 1 ? 0 : NONE);
            // "NONE for others" is no refusal.
            due(() -> x.status(0) + x.status(1), 0);
        }
    }

    /** "Asked, nothing stays changed." */
    private static void asking() {
        about = "asked, nothing stays changed";
        Act[] questions = {
            x -> x.route(1, 0), x -> x.step(0, 1, 4), x -> x.told(9), x -> x.placeOf(1, 7), x -> x.accountOf(0, 4),
            x -> x.payment(3, 8), x -> x.leg(3, 0, 4), x -> x.used(0, 0), x -> x.fee(0, 1), x -> bit(x.open(1, 0)),
            x -> x.next(1, 0), x -> x.after(1, 0, 20), x -> x.idle(1, 5), x -> x.hours(0, 0), x -> x.busiest(0, 0),
            x -> x.tied(0), x -> x.line(0, 0, 0), x -> x.forecast(0, LAST), x -> x.lowest(0, 0), x -> x.late(0),
            x -> x.leaves(0, 0, 1), x -> x.arrives(0, 0, 1), x -> x.reach(0, 10, 0), x -> x.cheapest(LAST),
            x -> x.latest(LAST), x -> x.most(LAST), x -> x.bars(0), x -> x.soonest(2), x -> x.fewest(LAST),
            x -> x.delay(0), x -> x.bankOf(0, 3), x -> x.shared(0, 1), x -> x.tiedUp(4), x -> x.days(1, 0, 399),
            x -> x.until(LAST), x -> x.due(2, 1), x -> x.needs(5, LAST), x -> x.without(0), x -> x.vital(), x -> x.status(0),
        };
        String before = all(rich());
        for (int i = 0; i < questions.length; i++) {
            AbroadRouter x = rich();
            long first = questions[i].call(x);
            Act again = questions[i];
            due(() -> again.call(x), first);
            due(() -> x.status(0) + x.status(1), 0);
            checks++;
            if (!all(x).equals(before)) say("question " + i + " changed something");
        }
        // What answers that it does nothing does nothing, either.
        Act[] nothings = {
            x -> x.holiday(0, 0), x -> x.holiday(1, 5), x -> x.holiday(1, 9), x -> x.draw(0, 9_999_999), x -> x.draw(5, 1),
            x -> x.refuse(0), x -> x.refuse(2), x -> x.refuse(3), x -> x.reroute(0), x -> x.reroute(2), x -> x.reroute(3),
            x -> x.reroute(4), x -> bit(x.shut(0, false)),
        };
        for (int i = 0; i < nothings.length; i++) {
            AbroadRouter x = rich();
            nothings[i].call(x);
            due(() -> x.status(0) + x.status(1), 0);
            checks++;
            if (!all(x).equals(before)) say("call " + i + " that does nothing changed something");
        }
    }
}
