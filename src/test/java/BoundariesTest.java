import java.io.IOException;
import java.lang.reflect.InvocationTargetException;
import java.lang.reflect.Method;
import java.nio.file.Files;
import java.nio.file.Path;
import java.util.ArrayList;
import java.util.Comparator;
import java.util.List;

/**
 * One test of its own for each sentence of the document that names a boundary case: what is empty, what is full,
 * what lies below DAY 0 or reaches LAST, what is just enough and just not, what does nothing. Arguments that are
 * too small or too large are the matter of ArgumentsTest.
 */
public final class BoundariesTest extends Checks {
    public static void main(String[] args) throws Exception {
        List<Method> tests = new ArrayList<>();
        for (Method method : BoundariesTest.class.getDeclaredMethods()) {
            if (method.isAnnotationPresent(Says.class)) tests.add(method);
        }
        tests.sort(Comparator.comparingInt((Method m) -> m.getAnnotation(Says.class).promise()).thenComparing(Method::getName));
        for (Method test : tests) {
            Says says = test.getAnnotation(Says.class);
            about = "promise " + says.promise() + " (" + says.words() + ")";
            try {
                test.invoke(null);
            } catch (InvocationTargetException e) {
                say("threw " + e.getCause());
            }
        }
        for (int promise = 0; promise <= 55; promise++) haveOne(promise, tests);
        lookUpWords(tests);
        System.out.println(tests.size() + " sentences, " + checks + " checks, " + wrongs + " not as due");
        if (wrongs != 0) System.exit(1);
    }

    private static void haveOne(int promise, List<Method> tests) {
        checks++;
        about = "promise " + promise;
        if (tests.stream().noneMatch(t -> t.getAnnotation(Says.class).promise() == promise)) say("no sentence of it is tested");
    }

    /** The words of each test stand in the document, where they are said to. */
    private static void lookUpWords(List<Method> tests) throws IOException {
        Path path = Path.of("../shared/DOC.md");
        if (!Files.isReadable(path)) return;
        String document = Files.readString(path).replaceAll("\\s+", " ");
        for (Method test : tests) {
            Says says = test.getAnnotation(Says.class);
            int from = document.indexOf(says.promise() == 0 ? "## Terms" : "## Promise " + says.promise() + ":");
            int to = document.indexOf("## ", from + 3);
            checks++;
            if (from < 0 || to < 0 || !document.substring(from, to).contains(says.words())) {
                about = test.getName();
                say("the document does not say there: " + says.words());
            }
        }
    }

    // ---- Terms: clocks and days ----

    @Says(promise = 0, words = "NOW (0 at first)")
    static void nowIsZeroAtFirst() {
        AbroadRouter x = new AbroadRouter();
        due(() -> x.told(0), 0);
    }

    @Says(promise = 0, words = "LAST is 575,999")
    static void lastMinute() {
        AbroadRouter x = flat(1);
        due(() -> bit(x.open(0, 575_999)), 1);
        wrong(() -> x.open(0, 576_000) ? 1 : 0);
        goTo(x, 575_999);
        due(() -> x.told(0), 575_999);
        due(() -> x.go(1), NONE);
    }

    @Says(promise = 0, words = "its DAY is that by 1,440, rounded down, its HOUR what is left")
    static void daysBelowZero() {
        AbroadRouter x = new AbroadRouter();
        x.place(-720, 0, 0, 1439);
        x.place(-1, 0, 0, 1439);
        x.place(0, 0, 0, 1439);
        x.place(840, 0, 0, 1439);
        daysAndHours(x, -1, 720, -1, 1439, 0, 0, 0, 840);
        x.go(1);
        daysAndHours(x, -1, 721, 0, 0, 0, 1, 0, 841);
        x.go(598);
        daysAndHours(x, -1, 1319, 0, 598, 0, 599, 0, 1439);
        x.go(1);
        daysAndHours(x, -1, 1320, 0, 599, 0, 600, 1, 0);
        x.go(119);
        daysAndHours(x, -1, 1439, 0, 718, 0, 719, 1, 119);
        x.go(1);
        daysAndHours(x, 0, 0, 0, 719, 0, 720, 1, 120);
        goTo(x, LAST);
        daysAndHours(x, 399, 719, 399, 1438, 399, 1439, 400, 839);
    }
    private static void daysAndHours(AbroadRouter x, int... want) {
        for (int i = 0; i < 4; i++) {
            int place = i;
            due(() -> x.placeOf(place, 5), want[2 * place]);
            due(() -> x.placeOf(place, 6), want[2 * place + 1]);
        }
    }

    @Says(promise = 0, words = "bit 0 DAY 0, 7, 14 .., and so on, also of DAYS below 0")
    static void bitsOfTheWeek() {
        for (int bit = 0; bit < 7; bit++) {
            AbroadRouter x = new AbroadRouter();
            int off = bit;
            // A clock that is so far behind that it begins on DAY -1.
            x.place(-720, 1 << bit, 0, 1439);
            for (int day = 0; day < 14; day++) { int d = day; due(() -> x.days(0, d, d), d % 7 == off ? 0 : 1); }
            for (int day = 393; day < 400; day++) { int d = day; due(() -> x.days(0, d, d), d % 7 == off ? 0 : 1); }
            due(() -> bit(x.open(0, 0)), off == 6 ? 0 : 1);
            due(() -> bit(x.open(0, 719)), off == 6 ? 0 : 1);
            due(() -> bit(x.open(0, 720)), off == 0 ? 0 : 1);
        }
        AbroadRouter y = new AbroadRouter();
        y.place(-720, 63, 0, 1439);
        due(() -> y.next(0, 719), 719);
        due(() -> y.next(0, 720), 720 + 6 * DAY);
        y.place(840, 126, 0, 1439);
        // LAST is on DAY 400 there: of DAYS 399 and 400 the first one is the first of a week.
        due(() -> bit(y.open(1, LAST)), 0);
        due(() -> bit(y.open(1, LAST - 839)), 0);
        due(() -> bit(y.open(1, LAST - 840)), 1);
    }

    @Says(promise = 0, words = "A PLACE is OPEN at a MINUTE, if its DAY then is a BUSINESS DAY, and its HOUR is from OPENS to SHUTS.")
    static void openFromOpensToShuts() {
        AbroadRouter x = new AbroadRouter();
        x.place(60, 64, 480, 481);
        due(() -> bit(x.open(0, 419)), 0);
        due(() -> bit(x.open(0, 420)), 1);
        due(() -> bit(x.open(0, 421)), 1);
        due(() -> bit(x.open(0, 422)), 0);
        x.holiday(0, 1);
        due(() -> bit(x.open(0, DAY + 420)), 0);
        due(() -> bit(x.open(0, 2 * DAY + 420)), 1);
        due(() -> bit(x.open(0, 6 * DAY + 420)), 0);
        x.place(0, 0, 0, 1);
        due(() -> bit(x.open(1, 0)), 1);
        due(() -> bit(x.open(1, 2)), 0);
        due(() -> bit(x.open(1, 1439)), 0);
        x.place(0, 0, 1438, 1439);
        due(() -> bit(x.open(2, 1437)), 0);
        due(() -> bit(x.open(2, 1439)), 1);
        due(() -> bit(x.open(2, 1440)), 0);
    }

    // ---- Terms: accounts ----

    @Says(promise = 0, words = "FIX, RATE, LEAST, MOST (0, 0, 0, 99,999 at first), LIMIT (1,000,000 at first), DAILY (9,999,999 at first), a BALANCE, HELD (0 both at first)")
    static void accountAtFirst() {
        AbroadRouter x = flat(2);
        x.account(0, 1, 1439, 0, 0);
        due(() -> x.fee(0, 1), 0);
        due(() -> x.fee(0, 1_000_000), 0);
        due(() -> x.accountOf(0, 9), 1_000_000);
        due(() -> x.accountOf(0, 10), 9_999_999);
        due(() -> x.accountOf(0, 2), 0);
        due(() -> x.accountOf(0, 3), 0);
        due(() -> x.accountOf(0, 4), 0);
        due(() -> x.leaves(0, 0, 1_000_000), 0);
    }

    @Says(promise = 0, words = "SHUT or not (not, at first)")
    static void notShutAtFirst() {
        AbroadRouter x = flat(2);
        x.account(0, 1, 1439, 0, 0);
        due(() -> x.accountOf(0, 5), 0);
        due(() -> bit(x.shut(0, true)), 0);
    }

    @Says(promise = 0, words = "FEE of an amount by an ACCOUNT: FIX, and the amount times RATE by 1,000 (cut); LEAST at least, MOST at most.")
    static void feeIsCutAndBounded() {
        AbroadRouter x = flat(2);
        x.account(0, 1, 1439, 0, 0);
        x.terms(0, 0, 1, 0, 99_999);
        due(() -> x.fee(0, 999), 0);
        due(() -> x.fee(0, 1_000), 1);
        due(() -> x.fee(0, 1_999), 1);
        due(() -> x.fee(0, 1_000_000), 1_000);
        x.terms(0, 3, 1, 5, 7);
        due(() -> x.fee(0, 1), 5);
        due(() -> x.fee(0, 2_999), 5);
        due(() -> x.fee(0, 3_000), 6);
        due(() -> x.fee(0, 4_000), 7);
        due(() -> x.fee(0, 5_000), 7);
        x.terms(0, 9_999, 100, 0, 99_999);
        due(() -> x.fee(0, 900_000), 99_999);
        due(() -> x.fee(0, 899_990), 99_998);
        due(() -> x.fee(0, 1_000_000), 99_999);
        x.terms(0, 9_999, 100, 0, 0);
        due(() -> x.fee(0, 1_000_000), 0);
        x.terms(0, 0, 0, 42, 42);
        due(() -> x.fee(0, 1), 42);
    }

    @Says(promise = 0, words = "both its PLACES (of its BANKS) are OPEN then")
    static void leavesWhereBothAreOpen() {
        AbroadRouter x = new AbroadRouter();
        x.place(0, 0, 100, 200);
        x.place(0, 0, 200, 300);
        x.place(0, 0, 201, 300);
        x.place(-60, 0, 40, 140);
        for (int i = 0; i < 4; i++) x.bank(i);
        x.account(0, 1, 1439, 0, 0);
        x.account(1, 0, 1439, 0, 0);
        x.account(0, 2, 1439, 0, 0);
        x.account(2, 0, 1439, 0, 0);
        x.account(0, 3, 1439, 0, 0);
        // They meet for one MINUTE of a day, or for none.
        for (int i = 0; i < 2; i++) {
            int both = i;
            due(() -> x.leaves(both, 0, 1), 200);
            due(() -> x.leaves(both, 200, 1), 200);
            due(() -> x.leaves(both, 201, 1), DAY + 200);
            due(() -> x.hours(both, 0), 1);
            due(() -> x.leaves(both + 2, 0, 1), NONE);
            due(() -> x.hours(both + 2, 0), 0);
        }
        // The same hours of the world's clock, by two clocks.
        due(() -> x.hours(4, 0), 101);
        x.holiday(0, 1);
        x.holiday(1, 2);
        due(() -> x.leaves(0, 201, 1), 3 * DAY + 200);
        due(() -> x.leaves(1, 201, 1), 3 * DAY + 200);
    }

    @Says(promise = 0, words = "the HOUR of that of the second BANK is CUT at most")
    static void leavesUpToCut() {
        AbroadRouter x = new AbroadRouter();
        x.place(0, 0, 0, 1439);
        x.place(60, 0, 480, 600);
        x.bank(0);
        x.bank(1);
        x.account(0, 1, 500, 0, 0);
        due(() -> x.leaves(0, 440, 1), 440);
        due(() -> x.leaves(0, 441, 1), DAY + 420);
        due(() -> x.hours(0, 0), 21);
        // CUT at OPENS is one MINUTE, ahead of it none, behind SHUTS all.
        x.account(0, 1, 480, 0, 0);
        due(() -> x.hours(1, 0), 1);
        due(() -> x.leaves(1, 0, 1), 420);
        due(() -> x.leaves(1, 421, 1), DAY + 420);
        x.account(0, 1, 479, 0, 0);
        due(() -> x.hours(2, 0), 0);
        due(() -> x.leaves(2, 0, 1), NONE);
        x.account(0, 1, 601, 0, 0);
        due(() -> x.hours(3, 0), 121);
        due(() -> x.leaves(3, 540, 1), 540);
        due(() -> x.leaves(3, 541, 1), DAY + 420);
        // The clock of the first BANK does not count for it.
        x.account(1, 0, 450, 0, 0);
        due(() -> x.leaves(4, 450, 1), 450);
        due(() -> x.leaves(4, 451, 1), DAY + 420);
        x.account(0, 1, 0, 0, 0);
        due(() -> x.leaves(5, 0, 1), NONE);
    }

    @Says(promise = 0, words = "what is USED of the DAY there, and the amount, is DAILY at most")
    static void leavesUpToDaily() {
        AbroadRouter x = flat(2);
        way(x, 0, 1, 0, 0, 0);
        x.limits(0, 1_000_000, 1_000);
        booked(x, 0, 1, 400, 0);
        due(() -> x.leaves(0, 0, 600), 0);
        due(() -> x.leaves(0, 0, 601), DAY);
        due(() -> x.leaves(0, 0, 1_000), DAY);
        due(() -> x.leaves(0, 0, 1_001), NONE);
        booked(x, 0, 1, 600, 0);
        due(() -> x.leaves(0, 0, 1), DAY);
        x.limits(0, 1_000_000, 0);
        due(() -> x.leaves(0, 0, 1), NONE);
        // The DAY is one of the second PLACE.
        AbroadRouter y = new AbroadRouter();
        y.place(0, 0, 0, 1439);
        y.place(840, 0, 0, 1439);
        y.bank(0);
        y.bank(1);
        way(y, 0, 1, 0, 0, 0);
        y.limits(0, 10, 10);
        booked(y, 0, 1, 10, 599);
        due(() -> y.leaves(0, 0, 1), 600);
        booked(y, 0, 1, 10, 600);
        due(() -> y.leaves(0, 0, 1), 600 + DAY);
    }

    @Says(promise = 0, words = "A DAY of an ACCOUNT is that of the PLACE of its second BANK")
    static void daysBelowZeroAndBehindTheLastHaveRoom() {
        AbroadRouter x = new AbroadRouter();
        x.place(0, 0, 0, 1439);
        x.place(-720, 0, 0, 1439);
        x.place(840, 0, 0, 1439);
        for (int i = 0; i < 3; i++) x.bank(i);
        way(x, 0, 1, 0, 0, 0);
        way(x, 0, 2, 0, 0, 0);
        x.limits(0, 100, 100);
        x.limits(1, 100, 100);
        // DAY -1 there.
        booked(x, 0, 1, 60, 719);
        due(() -> x.leg(0, 0, 1), 719);
        due(() -> x.used(0, 0), 0);
        due(() -> x.leaves(0, 0, 40), 0);
        due(() -> x.leaves(0, 0, 41), 720);
        due(() -> x.busiest(0, 0), NONE);
        // DAY 400 there, from 575,160 on.
        booked(x, 0, 2, 60, LAST);
        due(() -> x.leg(1, 0, 1), LAST);
        due(() -> x.leaves(1, 575_160, 40), 575_160);
        due(() -> x.leaves(1, 575_160, 41), NONE);
        due(() -> x.leaves(1, 575_159, 41), 575_159);
        due(() -> x.busiest(1, 0), NONE);
        due(() -> x.refuse(1), 1);
        due(() -> x.leaves(1, 575_160, 41), 575_160);
    }

    @Says(promise = 0, words = "at the least MINUTE from that on, LAST at most, at which it CAN")
    static void leavesUpToLast() {
        AbroadRouter x = new AbroadRouter();
        x.place(0, 0, 0, 1439);
        x.place(0, 0, 0, 1438);
        for (int i = 0; i < 3; i++) x.bank(i / 2);
        x.account(0, 1, 1439, 0, 0);
        x.account(0, 2, 1439, 0, 0);
        x.account(0, 1, 1438, 0, 0);
        due(() -> x.leaves(0, LAST, 1), LAST);
        due(() -> x.leaves(1, LAST - 1, 1), LAST - 1);
        due(() -> x.leaves(1, LAST, 1), NONE);
        due(() -> x.leaves(2, LAST - 1, 1), LAST - 1);
        due(() -> x.leaves(2, LAST, 1), NONE);
        due(() -> x.arrives(1, LAST, 1), NONE);
    }

    @Says(promise = 0, words = "if the amount is above LIMIT: never")
    static void neverAboveLimit() {
        AbroadRouter x = flat(2);
        x.account(0, 1, 1439, 0, 0);
        x.limits(0, 500, 9_999_999);
        due(() -> x.leaves(0, 0, 500), 0);
        due(() -> x.leaves(0, 0, 501), NONE);
        due(() -> x.arrives(0, 0, 501), NONE);
        x.limits(0, 0, 9_999_999);
        due(() -> x.leaves(0, 0, 1), NONE);
        // LIMIT is no part of whether it CAN LEAVE.
        due(() -> x.hours(0, 0), 1440);
    }

    @Says(promise = 0, words = "(that DAY itself, if LAG is 0); not ahead of the MINUTE when it LEAVES, then")
    static void arrivesOnTheDayItself() {
        AbroadRouter x = flat(2);
        x.account(0, 1, 1439, 0, 500);
        due(() -> x.arrives(0, 0, 1), 500);
        due(() -> x.arrives(0, 499, 1), 500);
        due(() -> x.arrives(0, 500, 1), 500);
        due(() -> x.arrives(0, 501, 1), 501);
        due(() -> x.arrives(0, 1439, 1), 1439);
        // READY of DAY -1 lies ahead of all MINUTES.
        AbroadRouter y = new AbroadRouter();
        y.place(-720, 0, 0, 1439);
        y.bank(0);
        y.bank(0);
        y.account(0, 1, 1439, 0, 719);
        y.account(0, 1, 1439, 0, 721);
        due(() -> y.arrives(0, 0, 1), 0);
        due(() -> y.arrives(1, 0, 1), 1);
        due(() -> y.arrives(1, 2, 1), 2);
        y.account(0, 1, 1439, 1, 0);
        due(() -> y.arrives(2, 0, 1), 720);
        due(() -> y.arrives(2, 720, 1), 720 + DAY);
    }

    @Says(promise = 0, words = "at READY of the LAG-th BUSINESS DAY, of the PLACE of the second BANK, behind its DAY when it LEAVES")
    static void lagCountsBusinessDaysOfTheSecond() {
        AbroadRouter x = new AbroadRouter();
        x.place(0, 0, 0, 1439);
        x.place(0, 96, 0, 1439);
        x.bank(0);
        x.bank(1);
        for (int lag = 0; lag <= 5; lag++) x.account(0, 1, 1439, lag, 10);
        x.account(1, 0, 1439, 1, 10);
        // From DAY 4: 7, 8, 9 .. are the next BUSINESS DAYS of the second one.
        due(() -> x.arrives(0, 4 * DAY, 1), 4 * DAY + 10);
        for (int i = 1; i <= 5; i++) { int lag = i; due(() -> x.arrives(lag, 4 * DAY, 1), (6 + lag) * DAY + 10); }
        due(() -> x.arrives(6, 4 * DAY, 1), 5 * DAY + 10);
        x.holiday(1, 7);
        x.holiday(0, 8);
        for (int i = 1; i <= 4; i++) { int lag = i; due(() -> x.arrives(lag, 4 * DAY, 1), (7 + lag) * DAY + 10); }
        due(() -> x.arrives(5, 4 * DAY, 1), 14 * DAY + 10);
    }

    @Says(promise = 0, words = "never, if that is above LAST")
    static void neverArrivesAboveLast() {
        AbroadRouter x = flat(2);
        x.account(0, 1, 1439, 0, 1439);
        x.account(0, 1, 1439, 1, 0);
        x.account(0, 1, 1439, 5, 1439);
        due(() -> x.arrives(0, LAST, 1), LAST);
        due(() -> x.arrives(1, 399 * DAY - 1, 1), 399 * DAY);
        due(() -> x.arrives(1, 399 * DAY, 1), NONE);
        due(() -> x.arrives(2, 395 * DAY - 1, 1), LAST);
        due(() -> x.arrives(2, 395 * DAY, 1), NONE);
        // DAY 400 there reaches up to HOUR 839 of it.
        AbroadRouter y = new AbroadRouter();
        y.place(840, 0, 0, 1439);
        y.bank(0);
        y.bank(0);
        y.account(0, 1, 1439, 0, 839);
        y.account(0, 1, 1439, 0, 840);
        y.account(0, 1, 1439, 1, 839);
        y.account(0, 1, 1439, 1, 840);
        due(() -> y.arrives(0, LAST - 839, 1), LAST);
        due(() -> y.arrives(1, LAST - 839, 1), NONE);
        due(() -> y.arrives(1, LAST - 840, 1), LAST - 840);
        due(() -> y.arrives(2, LAST - 840, 1), LAST);
        due(() -> y.arrives(2, LAST - 839, 1), NONE);
        due(() -> y.arrives(3, LAST - 840, 1), NONE);
    }

    @Says(promise = 0, words = "(as they are laid now; those that are released not)")
    static void usedButForReleased() {
        AbroadRouter x = flat(3);
        way(x, 0, 1, 0, 0, 0);
        way(x, 1, 2, 0, 0, 0);
        booked(x, 0, 2, 70, 10);
        due(() -> x.used(0, 0), 70);
        due(() -> x.used(1, 0), 70);
        due(() -> x.refuse(0), 1);
        due(() -> x.used(0, 0), 0);
        due(() -> x.used(1, 0), 0);
        // One that LEFT is not released, PAID or gone BACK.
        booked(x, 0, 1, 5, 20);
        x.go(20);
        due(() -> x.payment(1, 0), 1);
        due(() -> x.used(0, 0), 5);
    }

    // ---- Terms: chains ----

    /** BANKS in a row, each with an ACCOUNT to the next one by which all is there at once. */
    private static AbroadRouter row(int banks) {
        AbroadRouter x = flat(banks);
        for (int i = 0; i + 1 < banks; i++) way(x, i, i + 1, 0, 0, 1);
        return x;
    }

    @Says(promise = 0, words = "1 to 5 ACCOUNTS")
    static void fiveAccountsAtMost() {
        AbroadRouter x = row(7);
        for (int to = 1; to <= 5; to++) {
            int bank = to;
            due(() -> x.ask(0, bank, 10, 0), 1);
            due(() -> x.route(0, 2), bank);
            due(() -> x.fewest(0), bank);
            due(() -> x.latest(0), 0);
            due(() -> x.most(0), 99_999);
        }
        due(() -> x.ask(0, 6, 10, 0), 0);
        due(() -> x.fewest(LAST), NONE);
        due(() -> x.latest(LAST), NONE);
        due(() -> x.most(LAST), 0);
        due(() -> x.cheapest(LAST), NONE);
        due(() -> x.soonest(6), NONE);
        due(() -> x.reach(0, 10, 0), 0b0111110);
        due(() -> x.reach(1, 10, 0), 0b1111100);
        // The same, ACCOUNTS made from the last one on.
        AbroadRouter y = flat(7);
        for (int i = 6; i > 0; i--) way(y, i - 1, i, 0, 0, 1);
        y.ask(0, 5, 10, 0);
        due(() -> y.latest(100), 100);
        due(() -> y.fewest(0), 5);
        y.ask(0, 6, 10, 0);
        due(() -> y.latest(100), NONE);
        due(() -> y.fewest(LAST), NONE);
        due(() -> y.soonest(6), NONE);
        due(() -> y.cheapest(LAST), NONE);
        fiveAccountsByTheDearerWay();
    }
    /** To BANK 2 it is cheaper by one more ACCOUNT, by which it would be one too many in all. */
    private static void fiveAccountsByTheDearerWay() {
        AbroadRouter x = flat(7);
        way(x, 0, 1, 0, 0, 0);
        way(x, 0, 2, 0, 0, 9);
        way(x, 1, 2, 0, 0, 0);
        for (int i = 2; i < 6; i++) way(x, i, i + 1, 0, 0, 1);
        due(() -> x.ask(0, 6, 10, 0), 1);
        due(() -> x.route(0, 1), 13);
        due(() -> x.route(0, 2), 5);
        due(() -> x.step(0, 0, 0), 1);
        due(() -> x.ask(0, 5, 10, 0), 1);
        due(() -> x.route(0, 1), 3);
        due(() -> x.route(0, 2), 5);
        due(() -> x.step(0, 0, 0), 0);
    }

    @Says(promise = 0, words = "no BANK twice")
    static void noBankTwice() {
        AbroadRouter x = row(3);
        way(x, 1, 0, 0, 0, 0);
        way(x, 2, 0, 0, 0, 0);
        due(() -> x.ask(0, 2, 10, 0), 1);
        due(() -> x.soonest(0), NONE);
        due(() -> x.reach(0, 10, 0), 6);
        due(() -> x.reach(1, 10, 0), 5);
        due(() -> x.reach(2, 10, 0), 3);
        due(() -> x.route(0, 2), 2);
    }

    @Says(promise = 0, words = "none SHUT")
    static void noChainByOneThatIsShut() {
        for (int i = 0; i < 3; i++) {
            AbroadRouter x = row(4);
            x.shut(i, true);
            due(() -> x.ask(0, 3, 10, 0), 0);
            x.shut(i, false);
            due(() -> x.route(0, 2), 3);
        }
    }

    @Says(promise = 0, words = "FREE of each is the amount and its FEE at least")
    static void freeIsJustEnough() {
        AbroadRouter x = flat(3);
        for (int i = 0; i < 2; i++) {
            x.account(i, i + 1, 1439, 0, 0);
            x.terms(i, 2, 10, 0, 99_999);
            x.fund(i, 1_012);
        }
        due(() -> x.ask(0, 2, 1_000, 0), 1);
        due(() -> x.most(0), 1_000);
        x.draw(1, 1);
        due(() -> x.ask(0, 2, 1_000, 0), 0);
        due(() -> x.bars(1), 2);
        due(() -> x.bars(0), 0);
        due(() -> x.ask(0, 2, 999, 0), 1);
        x.fund(1, 1);
        x.draw(0, 1);
        due(() -> x.ask(0, 2, 1_000, 0), 0);
        x.fund(0, 1);
        // What is HELD is not FREE.
        due(() -> x.ask(0, 1, 1, 0), 1);
        due(() -> x.pay(0), 0);
        due(() -> x.ask(0, 2, 1_000, 0), 0);
        due(() -> x.ask(0, 2, 997, 0), 1);
        due(() -> x.ask(0, 2, 998, 0), 1);
        due(() -> x.ask(0, 2, 999, 0), 0);
    }

    @Says(promise = 0, words = "by the first it LEAVES from the MINUTE on, by each next one from when it ARRIVED; it ARRIVES by each")
    static void nextFromWhenItArrived() {
        AbroadRouter x = flat(3);
        way(x, 0, 1, 0, 600, 0);
        int next = x.account(1, 2, 600, 0, 0);
        x.fund(next, 1_000);
        due(() -> x.ask(0, 2, 10, 0), 1);
        due(() -> x.step(0, 1, 1), 600);
        due(() -> x.route(0, 0), 600);
        // A MINUTE later CUT is over.
        due(() -> x.ask(0, 2, 10, 601), 1);
        due(() -> x.step(0, 1, 1), DAY);
        // By the last DAY: it LEAVES, but by the next one never; or it never ARRIVES.
        due(() -> x.ask(0, 2, 10, 399 * DAY + 600), 1);
        due(() -> x.ask(0, 2, 10, 399 * DAY + 601), 0);
        due(() -> x.ask(0, 1, 10, LAST), 1);
        int far = way(x, 1, 2, 1, 0, 0);
        due(() -> x.ask(0, 2, 10, 399 * DAY + 601), 0);
        due(() -> x.bars(far), 5);
        due(() -> x.bars(next), 4);
    }

    @Says(promise = 0, words = "is UNBEATEN, if there is no CHAIN with an END that is not later and FEES that are not more, one of both less")
    static void unbeatenPairs() {
        AbroadRouter x = flat(2);
        int mid = way(x, 0, 1, 0, 500, 50);
        due(() -> x.ask(0, 1, 10, 0), 1);
        way(x, 0, 1, 0, 500, 51);
        way(x, 0, 1, 0, 501, 50);
        way(x, 0, 1, 0, 501, 51);
        due(() -> x.ask(0, 1, 10, 0), 1);
        due(() -> x.step(0, 0, 0), mid);
        int cheap = way(x, 0, 1, 0, 501, 49);
        int quick = way(x, 0, 1, 0, 499, 51);
        due(() -> x.ask(0, 1, 10, 0), 3);
        due(() -> x.step(0, 0, 0), quick);
        due(() -> x.step(1, 0, 0), mid);
        due(() -> x.step(2, 0, 0), cheap);
        int best = way(x, 0, 1, 0, 499, 49);
        due(() -> x.ask(0, 1, 10, 0), 1);
        due(() -> x.step(0, 0, 0), best);
        unbeatenByCut();
        manyUnbeaten();
    }
    /** The same ACCOUNT, come to sooner and later: today, and cheaper tomorrow. */
    private static void unbeatenByCut() {
        AbroadRouter x = flat(3);
        way(x, 0, 1, 0, 600, 1);
        way(x, 0, 1, 0, 100, 9);
        int next = x.account(1, 2, 599, 0, 0);
        x.fund(next, 1_000);
        due(() -> x.ask(0, 2, 10, 0), 2);
        due(() -> x.route(0, 0), 100);
        due(() -> x.route(0, 1), 9);
        due(() -> x.route(1, 0), DAY);
        due(() -> x.route(1, 1), 1);
        due(() -> x.step(1, 1, 1), DAY);
        due(() -> x.step(0, 1, 1), 100);
    }
    /** As many ROUTES as ACCOUNTS; and 48 ACCOUNTS in two steps. */
    private static void manyUnbeaten() {
        AbroadRouter x = flat(2);
        for (int i = 0; i < 48; i++) way(x, 0, 1, 0, 100 + i, 48 - i);
        due(() -> x.ask(0, 1, 10, 0), 48);
        due(() -> x.route(0, 1), 48);
        due(() -> x.route(47, 1), 1);
        missing(() -> x.route(48, 0));
        AbroadRouter y = flat(3);
        for (int i = 0; i < 48; i++) way(y, i % 2, i % 2 + 1, 0, 10 + i / 2 * 50, 1_000 - i / 2 * 30);
        due(() -> y.ask(0, 2, 10, 0), 24);
        for (int i = 0; i < 24; i++) {
            int k = i;
            due(() -> y.route(k, 0), 10 + k * 50);
            due(() -> y.route(k, 1), 2 * (1_000 - k * 30));
            due(() -> y.step(k, 1, 0), 2 * k + 1);
        }
    }

    @Says(promise = 0, words = "the UNBEATEN pairs, each once, by END, from 0 on; of each the CHAIN of fewest ACCOUNTS, of these the first by the number of its first ACCOUNT, then of the next one, and so on")
    static void alikePairsOnce() {
        AbroadRouter x = flat(4);
        way(x, 1, 3, 0, 500, 1);
        way(x, 1, 3, 0, 500, 1);
        way(x, 0, 2, 0, 0, 1);
        way(x, 2, 3, 0, 500, 1);
        way(x, 0, 1, 0, 0, 1);
        way(x, 0, 1, 0, 0, 1);
        due(() -> x.ask(0, 3, 10, 0), 1);
        due(() -> x.step(0, 0, 0), 2);
        due(() -> x.step(0, 1, 0), 3);
        x.shut(2, true);
        due(() -> x.step(0, 0, 0), 4);
        due(() -> x.step(0, 1, 0), 0);
        x.shut(0, true);
        due(() -> x.step(0, 1, 0), 1);
        x.shut(4, true);
        due(() -> x.step(0, 0, 0), 5);
        due(() -> x.step(0, 1, 0), 1);
        int direct = way(x, 0, 3, 0, 500, 2);
        way(x, 0, 3, 0, 500, 2);
        due(() -> x.ask(0, 3, 10, 0), 1);
        due(() -> x.route(0, 2), 1);
        due(() -> x.step(0, 0, 0), direct);
    }

    @Says(promise = 0, words = "The ASK (none at first) is a BANK, another one, an amount, a MINUTE: what is told of it is by all as it is now.")
    static void noAskAtFirst() {
        AbroadRouter x = row(2);
        missing(() -> x.route(0, 0));
        missing(() -> x.step(0, 0, 0));
        missing(() -> x.pay(0));
        wrong(() -> x.cheapest(0));
        wrong(() -> x.latest(0));
        wrong(() -> x.most(0));
        wrong(() -> x.fewest(0));
        wrong(() -> x.bars(0));
        wrong(() -> x.soonest(0));
        wrong(() -> x.delay(0));
        wrong(() -> x.needs(0, 0));
        wrong(() -> x.without(0));
        wrong(() -> x.vital());
        // One that is refused is none; one without a ROUTE is one.
        wrong(() -> x.ask(0, 0, 1, 0));
        wrong(() -> x.cheapest(0));
        due(() -> x.ask(1, 0, 1, 0), 0);
        due(() -> x.cheapest(0), NONE);
        missing(() -> x.route(0, 0));
        way(x, 1, 0, 0, 5, 3);
        due(() -> x.route(0, 0), 5);
        due(() -> x.cheapest(5), 3);
        // One that is refused leaves the one ahead of it.
        wrong(() -> x.ask(0, 1, 0, 0));
        due(() -> x.route(0, 0), 5);
    }

    /** A world with ROUTES of an ASK, and others that there are as soon as money is just enough. */
    private static AbroadRouter asked() {
        AbroadRouter x = flat(4);
        x.place(0, 0, 0, 1439);
        way(x, 0, 1, 0, 300, 1);
        way(x, 1, 3, 0, 600, 1);
        way(x, 0, 3, 1, 0, 1);
        way(x, 0, 2, 0, 300, 4);
        way(x, 2, 3, 0, 500, 4);
        way(x, 0, 3, 0, 400, 9);
        way(x, 0, 3, 1, 100, 0);
        int[] left = {2_000, 2_500, 2_000, 2_500, 2_500, 2_000, 2_500};
        for (int i = 0; i < 7; i++) x.draw(i, 100_000 - left[i]);
        booked(x, 0, 1, 500, 0);
        booked(x, 0, 3, 500, 40);
        x.pay(3);
        x.go(10);
        x.refuse(0);
        // By ACCOUNTS 3 and 4, and by 6: 0 waits for what goes BACK, 2 and 5 are HELD.
        x.ask(0, 3, 1_500, 50);
        return x;
    }
    private interface Change { void make(AbroadRouter x); }
    private interface Question { long answer(AbroadRouter x); }

    private static final Change[] CHANGES = {
        x -> { }, x -> x.holiday(0, 1), x -> x.account(0, 3, 1439, 0, 70), x -> x.terms(3, 0, 0, 0, 0),
        x -> x.limits(4, 1_499, 9_999_999), x -> x.limits(3, 1_000_000, 1_400), x -> x.fund(0, 1_000),
        x -> x.draw(4, 1_000), x -> x.shut(3, true), x -> x.go(300), x -> x.pay(0), x -> x.pay(1),
        x -> x.refuse(1), x -> x.reroute(2), x -> x.without(4), x -> x.reach(0, 9, 9),
        x -> x.ask(0, 3, 100, 60), x -> x.ask(1, 3, 100, 60),
    };
    private static final Question[] QUESTIONS = {
        x -> x.route(0, 0), x -> x.route(0, 1), x -> x.route(1, 0), x -> x.route(1, 1), x -> x.route(2, 0),
        x -> x.step(0, 0, 0), x -> x.step(0, 0, 4), x -> x.step(1, 0, 0), x -> x.cheapest(LAST), x -> x.cheapest(700),
        x -> x.latest(550), x -> x.latest(1_600), x -> x.most(1_000), x -> x.most(500), x -> x.bars(0), x -> x.bars(4),
        x -> x.soonest(2), x -> x.soonest(3), x -> x.fewest(700), x -> x.delay(3), x -> x.needs(0, 1_000),
        x -> x.needs(5, 450), x -> x.without(2), x -> x.without(4), x -> x.vital(), x -> x.reach(0, 1_500, 50),
    };
    private static String answerOf(Question question, AbroadRouter x) {
        try {
            return "" + question.answer(x);
        } catch (RuntimeException e) {
            return e.getClass().getSimpleName();
        }
    }

    @Says(promise = 0, words = "what is told of it is by all as it is now")
    static void askedByAllAsItIsNow() {
        AbroadRouter world = asked();
        due(() -> world.route(0, 0), 500);
        due(() -> world.route(1, 0), DAY + 100);
        missing(() -> world.route(2, 0));
        int others = 0;
        for (int c = 0; c < CHANGES.length; c++) {
            int[] ask = c == 16 ? new int[] {0, 100, 60} : c == 17 ? new int[] {1, 100, 60} : new int[] {0, 1_500, 50};
            for (int q = 0; q < QUESTIONS.length; q++) {
                AbroadRouter x = asked();
                CHANGES[c].make(x);
                AbroadRouter y = asked();
                CHANGES[c].make(y);
                y.ask(ask[0], 3, ask[1], ask[2]);
                String want = answerOf(QUESTIONS[q], y);
                String got = answerOf(QUESTIONS[q], x);
                checks++;
                if (!got.equals(want)) say("question " + q + " behind change " + c + ": " + got + ", asked anew " + want);
                if (!got.equals(answerOf(QUESTIONS[q], asked()))) others++;
            }
        }
        // The changes do change what is told.
        checks++;
        if (others < 100) say("only " + others + " answers changed");
    }

    // ---- Terms: payments ----

    @Says(promise = 0, words = "for each the amount and FEE are HELD on its ACCOUNT (as long as it has not LEFT)")
    static void heldUntilItLeft() {
        AbroadRouter x = flat(3);
        way(x, 0, 1, 0, 100, 3);
        way(x, 1, 2, 0, 0, 4);
        booked(x, 0, 2, 500, 50);
        due(() -> x.accountOf(0, 3), 503);
        due(() -> x.accountOf(1, 3), 504);
        due(() -> x.accountOf(0, 2), 100_000);
        x.go(49);
        due(() -> x.accountOf(0, 3), 503);
        x.go(1);
        due(() -> x.accountOf(0, 3), 0);
        due(() -> x.accountOf(0, 2), 99_497);
        x.go(49);
        due(() -> x.accountOf(1, 3), 504);
        x.go(1);
        due(() -> x.accountOf(1, 3), 0);
        due(() -> x.accountOf(1, 2), 99_496);
    }

    @Says(promise = 0, words = "what happens happens by MINUTES, of one MINUTE by numbers of PAYMENTS, of one by HOPS")
    static void happensInOrder() {
        AbroadRouter x = flat(2);
        way(x, 0, 1, 0, 0, 0);
        booked(x, 0, 1, 1, 30);
        booked(x, 0, 1, 2, 20);
        booked(x, 0, 1, 3, 30);
        booked(x, 0, 1, 4, 20);
        due(() -> x.go(30), 8);
        long[] order = {2, 0, 3, 1};
        for (int k = 0; k < 4; k++) { int line = k; due(() -> x.line(0, line, 4), order[line]); }
        due(() -> x.line(0, 0, 0), 30);
        due(() -> x.line(0, 2, 0), 20);
        due(() -> x.line(0, 0, 3), 100_000 - 10);
    }

    @Says(promise = 0, words = "(At most one thing of a HOP at one MINUTE: a HOP of which LEAVES and ARRIVES are the same MINUTE does both in turn.)")
    static void allInOneMinute() {
        AbroadRouter x = row(6);
        booked(x, 0, 5, 10, 7);
        due(() -> x.payment(0, 6), 7);
        due(() -> x.go(6), 0);
        due(() -> x.until(7), 6);
        due(() -> x.go(1), 6);
        due(() -> x.payment(0, 0), 1);
        due(() -> x.payment(0, 4), 5);
    }

    @Says(promise = 0, words = "HOPS that have not LEFT are released (HELD no more; USED no more)")
    static void refusedIsReleased() {
        AbroadRouter x = flat(3);
        way(x, 0, 1, 0, 100, 3);
        way(x, 1, 2, 0, 0, 4);
        booked(x, 0, 2, 500, 50);
        booked(x, 0, 2, 500, 50);
        x.go(50);
        x.go(20);
        due(() -> x.refuse(1), 1);
        due(() -> x.accountOf(1, 3), 504);
        due(() -> x.used(1, 0), 500);
        due(() -> x.used(0, 0), 1_000);
        due(() -> x.leg(1, 1, 4), NONE);
        due(() -> x.leg(1, 0, 4), 100);
    }

    @Says(promise = 0, words = "the latest at the least MINUTE, from NOW on, and from when it ARRIVES, LAST at most, at which both PLACES of its ACCOUNT are OPEN")
    static void latestGoesBack() {
        for (int now = 99; now <= 101; now++) {
            AbroadRouter x = flat(3);
            way(x, 0, 1, 0, 100, 3);
            way(x, 1, 2, 5, 0, 4);
            x.limits(1, 1_000_000, 500);
            booked(x, 1, 2, 500, 0);
            booked(x, 0, 2, 500, 50);
            due(() -> x.leg(1, 1, 1), DAY);
            x.go(now);
            x.refuse(1);
            due(() -> x.leg(1, 0, 4), Math.max(100, x.told(0)));
        }
        // OPEN up to SHUTS; CUT does not count.
        AbroadRouter y = new AbroadRouter();
        y.place(0, 0, 0, 1439);
        y.place(0, 0, 100, 200);
        y.bank(0);
        y.bank(1);
        y.account(0, 1, 150, 0, 200);
        y.account(0, 1, 150, 0, 201);
        y.fund(0, 1_000);
        y.fund(1, 1_000);
        booked(y, 0, 1, 10, 0);
        y.shut(0, true);
        booked(y, 0, 1, 10, 0);
        y.go(150);
        due(() -> y.refuse(0), 1);
        due(() -> y.refuse(1), 1);
        due(() -> y.leg(0, 0, 4), 200);
        due(() -> y.leg(1, 0, 4), DAY + 100);
    }

    @Says(promise = 0, words = "each next one at the least such MINUTE from when the one ahead of it went BACK; LAST, if there is none such")
    static void nextGoesBackAndLast() {
        AbroadRouter x = new AbroadRouter();
        x.place(0, 0, 0, 1439);
        x.place(0, 0, 0, 200);
        for (int i = 0; i < 3; i++) x.bank(i / 2);
        way(x, 0, 1, 0, 0, 1);
        way(x, 1, 2, 0, 300, 2);
        goTo(x, 399 * DAY);
        booked(x, 0, 2, 100, 399 * DAY);
        booked(x, 0, 2, 100, 399 * DAY + 200);
        due(() -> x.go(100), 2);
        due(() -> x.refuse(0), 1);
        // The second PLACE is never OPEN again: LAST; and from LAST on the first one goes, at LAST.
        due(() -> x.leg(0, 1, 4), LAST);
        due(() -> x.leg(0, 0, 4), LAST);
        goTo(x, LAST - 1);
        due(() -> x.payment(0, 5), 0);
        due(() -> x.told(9), LAST);
        due(() -> x.go(1), 2);
        due(() -> x.payment(0, 0), 3);
        due(() -> x.told(9), NONE);
    }

    @Says(promise = 0, words = "BALANCE of its ACCOUNT is the amount (without FEE) more; with the first HOP BACK the PAYMENT is RETURNED (at once, if no HOP has LEFT)")
    static void backWithoutFee() {
        AbroadRouter x = flat(3);
        way(x, 0, 1, 0, 0, 3);
        way(x, 1, 2, 1, 0, 4);
        booked(x, 0, 2, 500, 0);
        x.go(1);
        due(() -> x.refuse(0), 1);
        due(() -> x.payment(0, 0), 2);
        x.go(DAY - 2);
        due(() -> x.payment(0, 0), 2);
        due(() -> x.go(1), 2);
        due(() -> x.payment(0, 0), 3);
        due(() -> x.accountOf(0, 2), 99_997);
        due(() -> x.accountOf(1, 2), 99_996);
        // No HOP has LEFT: nothing goes, and all was released.
        booked(x, 0, 2, 500, DAY + 5);
        due(() -> x.refuse(1), 1);
        due(() -> x.payment(1, 0), 3);
        due(() -> x.accountOf(0, 4), 99_997);
        due(() -> x.go(20_160), 0);
        due(() -> x.accountOf(0, 2), 99_997);
    }

    @Says(promise = 0, words = "HOPS that have not LEFT are laid anew, by the same ACCOUNTS, one by one, from when the last that has LEFT ARRIVES, or from the MINUTE of the ASK by which it was BOOKED, and from NOW on, too")
    static void laidAnewFrom() {
        AbroadRouter x = new AbroadRouter();
        x.place(0, 0, 0, 1439);
        x.place(0, 0, 480, 1080);
        for (int i = 0; i < 3; i++) x.bank(i / 2);
        way(x, 0, 1, 0, 600, 0);
        way(x, 1, 2, 0, 0, 0);
        booked(x, 0, 2, 10, 100);
        booked(x, 0, 2, 10, 1_000);
        due(() -> x.leg(0, 1, 1), 600);
        due(() -> x.leg(1, 1, 1), 1_000);
        x.go(100);
        // HOP 0 of PAYMENT 0 has LEFT, it ARRIVES at 600; that DAY is over behind this HOLIDAY for none of them.
        due(() -> x.holiday(1, 1), 1);
        due(() -> x.leg(0, 1, 1), 600);
        due(() -> x.leg(1, 0, 1), 1_000);
        due(() -> x.leg(1, 1, 1), 1_000);
        laidAnewOneByOne();
        // From NOW on: a PAYMENT that waited for room does not go ahead of NOW.
        AbroadRouter y = flat(2);
        y.place(0, 0, 0, 1439);
        way(y, 0, 1, 0, 0, 0);
        y.limits(0, 1_000_000, 10);
        booked(y, 0, 1, 10, 0);
        booked(y, 0, 1, 10, 0);
        due(() -> y.leg(1, 0, 1), DAY);
        y.limits(0, 1_000_000, 20);
        y.go(300);
        due(() -> y.holiday(1, 50), 1);
        due(() -> y.leg(1, 0, 1), 300);
        due(() -> y.late(1), 300 - DAY);
    }

    /** A HOP that ARRIVES later is followed by one that LEAVES later. */
    private static void laidAnewOneByOne() {
        AbroadRouter x = new AbroadRouter();
        x.place(0, 0, 0, 1439);
        x.place(0, 0, 0, 1439);
        for (int i = 0; i < 4; i++) x.bank(i == 1 ? 1 : 0);
        way(x, 0, 1, 1, 10, 0);
        way(x, 1, 2, 0, 20, 0);
        way(x, 2, 3, 1, 30, 0);
        booked(x, 0, 3, 10, 0);
        due(() -> x.payment(0, 6), 2 * DAY + 30);
        due(() -> x.holiday(1, 1), 1);
        due(() -> x.leg(0, 0, 1), 0);
        due(() -> x.leg(0, 0, 2), 2 * DAY + 10);
        due(() -> x.leg(0, 1, 1), 2 * DAY + 10);
        due(() -> x.leg(0, 1, 2), 2 * DAY + 20);
        due(() -> x.leg(0, 2, 1), 2 * DAY + 20);
        due(() -> x.payment(0, 6), 3 * DAY + 30);
        due(() -> x.used(1, 1), 0);
        due(() -> x.used(1, 2), 10);
        due(() -> x.used(2, 2), 10);
    }

    @Says(promise = 0, words = "(what was USED by it is not; nothing else is asked, not whether an ACCOUNT is SHUT)")
    static void laidAnewWhatIsAsked() {
        AbroadRouter x = flat(2);
        x.place(0, 0, 0, 1439);
        way(x, 0, 1, 1, 0, 0);
        x.limits(0, 100, 100);
        booked(x, 0, 1, 100, 5);
        x.draw(0, 99_900);
        x.shut(0, true);
        x.terms(0, 50, 0, 0, 99_999);
        // It fills its DAY alone, its ACCOUNT is SHUT and has nothing FREE: it stays as it is.
        due(() -> x.holiday(1, 9), 1);
        due(() -> x.payment(0, 0), 0);
        due(() -> x.leg(0, 0, 1), 5);
        due(() -> x.used(0, 0), 100);
        due(() -> x.accountOf(0, 3), 100);
        due(() -> x.leg(0, 0, 6), 0);
    }

    @Says(promise = 0, words = "what has LEFT ARRIVES as it was to")
    static void whatLeftArrivesAsItWasTo() {
        AbroadRouter x = new AbroadRouter();
        x.place(0, 0, 0, 1439);
        x.place(0, 0, 0, 1439);
        x.bank(0);
        x.bank(1);
        way(x, 0, 1, 1, 10, 0);
        booked(x, 0, 1, 100, 0);
        booked(x, 0, 1, 100, 2);
        x.go(1);
        due(() -> x.holiday(1, 1), 1);
        due(() -> x.leg(0, 0, 2), DAY + 10);
        due(() -> x.leg(1, 0, 2), 2 * DAY + 10);
        x.go(DAY + 9);
        due(() -> x.payment(0, 0), 1);
        due(() -> x.payment(1, 0), 0);
    }

    @Says(promise = 0, words = "is there a HOP by which it never LEAVES, or ARRIVES, it is REFUSED (those of its HOPS that were laid by then with it)")
    static void refusedByHoliday() {
        // Never ARRIVES.
        AbroadRouter x = flat(2);
        x.place(0, 0, 0, 1439);
        x.bank(1);
        way(x, 0, 1, 0, 0, 1);
        way(x, 1, 2, 1, 0, 2);
        booked(x, 0, 2, 100, 398 * DAY);
        booked(x, 0, 2, 100, 397 * DAY);
        due(() -> x.holiday(1, 399), 1);
        due(() -> x.payment(0, 0), 3);
        due(() -> x.payment(1, 0), 0);
        due(() -> x.accountOf(0, 3), 101);
        due(() -> x.accountOf(1, 3), 102);
        due(() -> x.used(0, 398), 0);
        due(() -> x.used(1, 398), 0);
        due(() -> x.used(1, 397), 100);
        due(() -> x.holiday(1, 398), 1);
        due(() -> x.payment(1, 0), 3);
        due(() -> x.accountOf(0, 3) + x.accountOf(1, 3), 0);
        refusedByHolidayNeverLeaves();
    }
    private static void refusedByHolidayNeverLeaves() {
        AbroadRouter x = flat(2);
        x.place(0, 0, 0, 100);
        x.bank(1);
        way(x, 0, 1, 0, 0, 1);
        way(x, 1, 2, 0, 0, 2);
        booked(x, 0, 2, 100, 398 * DAY + 101);
        due(() -> x.leg(0, 1, 1), 399 * DAY);
        goTo(x, 398 * DAY + 101);
        due(() -> x.payment(0, 4), 1);
        // HOP 0 has LEFT: it goes BACK, HOP 1 is released.
        due(() -> x.holiday(1, 399), 1);
        due(() -> x.payment(0, 0), 2);
        due(() -> x.leg(0, 0, 4), 398 * DAY + 101);
        due(() -> x.leg(0, 1, 4), NONE);
        due(() -> x.payment(0, 6), 399 * DAY);
        due(() -> x.accountOf(1, 3), 0);
        due(() -> x.go(1), 1);
        due(() -> x.payment(0, 0), 3);
    }

    @Says(promise = 0, words = "of a RETURNING one, MINUTES of HOPS that are not BACK yet are found anew, as above (the first of these from NOW on, and from when the one ahead of it went BACK, or, for the latest, ARRIVED)")
    static void foundAnewByHoliday() {
        AbroadRouter x = new AbroadRouter();
        x.place(0, 0, 0, 1439);
        x.place(0, 0, 100, 200);
        for (int i = 0; i < 3; i++) x.bank(i == 1 ? 1 : 0);
        x.place(0, 0, 0, 1439);
        way(x, 0, 1, 0, 0, 0);
        way(x, 1, 2, 1, 150, 0);
        booked(x, 0, 2, 100, 0);
        x.go(100);
        due(() -> x.refuse(0), 1);
        due(() -> x.leg(0, 1, 4), DAY + 150);
        due(() -> x.leg(0, 0, 4), DAY + 150);
        due(() -> x.holiday(1, 1), 1);
        due(() -> x.leg(0, 1, 4), 2 * DAY + 100);
        due(() -> x.leg(0, 0, 4), 2 * DAY + 100);
        due(() -> x.leg(0, 1, 2), DAY + 150);
        // Another PLACE's HOLIDAY finds the same.
        due(() -> x.holiday(2, 2), 1);
        due(() -> x.leg(0, 1, 4), 2 * DAY + 100);
        goTo(x, DAY + 1);
        due(() -> x.holiday(1, 2), 1);
        due(() -> x.leg(0, 0, 4), 3 * DAY + 100);
        foundAnewPartly();
    }
    /** One HOP is BACK, the other one is not. */
    private static void foundAnewPartly() {
        AbroadRouter x = new AbroadRouter();
        x.place(0, 0, 0, 700);
        x.place(0, 0, 600, 1439);
        for (int i = 0; i < 4; i++) x.bank(Math.min(1, i));
        way(x, 2, 3, 0, 1_410, 4);
        way(x, 1, 2, 0, 1_400, 2);
        way(x, 0, 1, 0, 0, 1);
        booked(x, 0, 2, 100, 0);
        x.go(600);
        due(() -> x.refuse(0), 1);
        due(() -> x.until(1_399), 0);
        due(() -> x.until(1_400), 1);
        due(() -> x.until(DAY + 600), 2);
        x.go(900);
        due(() -> x.leg(0, 1, 5), 1);
        due(() -> x.leg(0, 0, 5), 0);
        due(() -> x.accountOf(1, 2), 99_998);
        due(() -> x.accountOf(2, 2), 99_899);
        due(() -> x.forecast(1, LAST), 99_998);
        due(() -> x.forecast(2, DAY + 599), 99_899);
        due(() -> x.forecast(2, DAY + 600), 99_999);
        due(() -> x.until(DAY + 599), 0);
        due(() -> x.until(LAST), 1);
        // DAY 1 has begun: of DAY 2 on, it finds the same; what is BACK stays.
        due(() -> x.holiday(1, 2), 1);
        due(() -> x.leg(0, 1, 4), 1_400);
        due(() -> x.leg(0, 0, 4), DAY + 600);
        due(() -> x.payment(0, 8), DAY + 600);
        due(() -> x.go(540), 1);
        due(() -> x.payment(0, 0), 3);
        due(() -> x.accountOf(2, 2), 99_999);
        due(() -> x.accountOf(1, 2), 99_998);
        foundAnewBehindOneBack();
    }
    private static void foundAnewBehindOneBack() {
        AbroadRouter x = new AbroadRouter();
        x.place(0, 0, 0, 700);
        x.place(0, 0, 600, 1439);
        for (int i = 0; i < 3; i++) x.bank(Math.min(1, i));
        way(x, 0, 1, 0, 0, 1);
        way(x, 1, 2, 0, 1_400, 2);
        booked(x, 0, 2, 100, 0);
        x.go(600);
        x.refuse(0);
        x.go(810);
        due(() -> x.payment(0, 5), 1);
        due(() -> x.leg(0, 0, 4), DAY + 600);
        due(() -> x.holiday(1, 1), 1);
        due(() -> x.leg(0, 1, 4), 1_400);
        due(() -> x.leg(0, 0, 4), 2 * DAY + 600);
    }

    // ---- promises 1 to 11: what makes and changes ----

    @Says(promise = 1, words = "No PLACES, BANKS, ACCOUNTS, PAYMENTS.")
    static void newObjectIsEmpty() {
        AbroadRouter x = new AbroadRouter();
        for (int what = 0; what <= 8; what++) { int w = what; due(() -> x.told(w), 0); }
        due(() -> x.told(9), NONE);
        missing(() -> x.placeOf(0, 0));
        missing(() -> x.bank(0));
        missing(() -> x.bankOf(0, 0));
        missing(() -> x.account(0, 0, 0, 0, 0));
        missing(() -> x.accountOf(0, 0));
        missing(() -> x.payment(0, 0));
        missing(() -> x.reach(0, 1, 0));
        due(() -> x.until(LAST), 0);
        due(() -> x.go(1), 0);
        // Another object is another one.
        x.place(0, 0, 0, 1);
        due(() -> new AbroadRouter().told(1), 0);
    }

    @Says(promise = 1, words = "PAYMENTS.")
    static void worldWithoutPayment() {
        AbroadRouter x = row(2);
        missing(() -> x.payment(0, 0));
        missing(() -> x.leg(0, 0, 0));
        missing(() -> x.refuse(0));
        missing(() -> x.reroute(0));
        missing(() -> x.late(0));
        missing(() -> x.shared(0, 0));
        missing(() -> x.tiedUp(0));
        for (int what = 4; what <= 8; what++) { int w = what; due(() -> x.told(w), 0); }
        due(() -> x.told(9), NONE);
        due(() -> x.tied(0), 0);
        due(() -> x.used(0, 0), 0);
        due(() -> x.busiest(0, 0), NONE);
        due(() -> x.until(LAST), 0);
        due(() -> x.due(1, 0), 0);
        due(() -> x.forecast(0, LAST), 100_000);
        due(() -> x.lowest(0, 0), 100_000);
        due(() -> x.lowest(0, 1), 0);
        due(() -> x.limits(0, 1, 1), 0);
        due(() -> x.holiday(0, 1), 1);
        due(() -> x.go(20_160), 0);
        due(() -> x.lowest(0, 1), 20_160);
    }

    @Says(promise = 2, words = "its number; NONE: there are 6")
    static void sixPlaces() {
        AbroadRouter x = new AbroadRouter();
        for (int i = 0; i < 6; i++) { int n = i; due(() -> x.place(n, n, n, n + 1), n); }
        due(() -> x.place(100, 100, 100, 101), NONE);
        wrong(() -> x.place(841, 0, 0, 1));
        due(() -> x.told(1), 6);
        for (int i = 0; i < 6; i++) { int n = i; due(() -> x.placeOf(n, 3), n + 1); }
        missing(() -> x.placeOf(6, 0));
        due(() -> x.status(1), 1);
    }

    @Says(promise = 3, words = "0, and nothing is changed, if it is no BUSINESS DAY, or not above its DAY NOW")
    static void holidayThatIsNone() {
        AbroadRouter x = new AbroadRouter();
        x.place(0, 4, 0, 1439);
        x.place(-720, 0, 0, 1439);
        x.place(840, 0, 0, 1439);
        due(() -> x.holiday(0, 0), 0);
        due(() -> x.holiday(0, 1), 1);
        due(() -> x.holiday(0, 1), 0);
        due(() -> x.holiday(0, 2), 0);
        due(() -> x.holiday(0, 3), 1);
        due(() -> x.placeOf(0, 4), 2);
        // DAY NOW is -1 there.
        due(() -> x.holiday(1, 0), 1);
        due(() -> x.holiday(1, 399), 1);
        due(() -> x.holiday(2, 0), 0);
        x.go(599);
        due(() -> x.holiday(2, 1), 1);
        x.go(1);
        // DAY NOW is 1 there.
        due(() -> x.holiday(2, 0), 0);
        due(() -> x.holiday(2, 2), 1);
        due(() -> x.placeOf(2, 4), 2);
        goTo(x, LAST);
        due(() -> x.holiday(0, 399), 0);
        due(() -> x.holiday(2, 399), 0);
        due(() -> x.placeOf(0, 4), 2);
    }

    @Says(promise = 3, words = "0, and nothing is changed")
    static void holidayThatIsNoneLaysNothingAnew() {
        AbroadRouter x = flat(2);
        x.place(0, 64, 0, 1439);
        way(x, 0, 1, 0, 0, 0);
        x.limits(0, 1_000_000, 10);
        booked(x, 0, 1, 10, 0);
        booked(x, 0, 1, 10, 0);
        x.refuse(0);
        // Laid anew the second one would LEAVE at once.
        due(() -> x.holiday(1, 0), 0);
        due(() -> x.holiday(1, 6), 0);
        missing(() -> x.holiday(2, 1));
        wrong(() -> x.holiday(1, 400));
        due(() -> x.leg(1, 0, 1), DAY);
        due(() -> x.holiday(1, 1), 1);
        due(() -> x.leg(1, 0, 1), 0);
    }

    @Says(promise = 3, words = "-1: it has 40")
    static void fortyHolidays() {
        AbroadRouter x = flat(2);
        x.place(0, 0, 0, 1439);
        way(x, 0, 1, 0, 0, 0);
        x.limits(0, 1_000_000, 10);
        for (int i = 1; i <= 40; i++) { int day = i; due(() -> x.holiday(1, day), 1); }
        due(() -> x.placeOf(1, 4), 40);
        booked(x, 0, 1, 10, 0);
        booked(x, 0, 1, 10, 0);
        x.refuse(0);
        due(() -> x.holiday(1, 41), -1);
        due(() -> x.holiday(1, 399), -1);
        // Nothing is laid anew, no DAY is off.
        due(() -> x.leg(1, 0, 1), DAY);
        due(() -> x.days(1, 41, 399), 359);
        due(() -> x.placeOf(1, 4), 40);
        // What is no BUSINESS DAY stays 0; another PLACE has its own 40.
        due(() -> x.holiday(1, 40), 0);
        due(() -> x.holiday(1, 0), 0);
        due(() -> x.holiday(0, 41), 1);
        due(() -> x.leg(1, 0, 1), 0);
    }

    @Says(promise = 4, words = "its number; NONE: there are 16")
    static void sixteenBanks() {
        AbroadRouter x = new AbroadRouter();
        x.place(0, 0, 0, 1439);
        x.place(0, 0, 0, 1439);
        for (int i = 0; i < 16; i++) { int n = i; due(() -> x.bank(n % 2), n); }
        due(() -> x.bank(1), NONE);
        missing(() -> x.bank(2));
        due(() -> x.told(2), 16);
        due(() -> x.bankOf(15, 0), 1);
        missing(() -> x.bankOf(16, 0));
        // The last one goes with all calls.
        x.account(15, 14, 1439, 0, 0);
        x.account(14, 15, 1439, 0, 0);
        x.fund(0, 1);
        x.fund(1, 1);
        due(() -> x.reach(15, 1, 0), 1 << 14);
        due(() -> x.reach(14, 1, 0), 1 << 15);
        due(() -> x.ask(14, 15, 1, 0), 1);
        due(() -> x.latest(LAST), LAST);
        due(() -> x.soonest(15), 0);
    }

    @Says(promise = 5, words = "its number; NONE: there are 48")
    static void fortyEightAccounts() {
        AbroadRouter x = flat(3);
        for (int i = 0; i < 48; i++) { int n = i; due(() -> x.account(0, 1, n, 0, 0), n); }
        due(() -> x.account(1, 2, 0, 0, 0), NONE);
        wrong(() -> x.account(1, 1, 0, 0, 0));
        missing(() -> x.account(1, 3, 0, 0, 0));
        due(() -> x.told(3), 48);
        due(() -> x.accountOf(47, 6), 47);
        due(() -> x.bankOf(1, 1), 0);
        missing(() -> x.accountOf(48, 0));
        // The last one goes with all calls.
        x.fund(47, 10);
        due(() -> x.ask(0, 1, 10, 0), 1);
        due(() -> x.step(0, 0, 0), 47);
        due(() -> x.vital(), 1L << 47);
        due(() -> x.pay(0), 0);
        due(() -> x.shared(0, 0), 1L << 47);
    }

    @Says(promise = 5, words = "An ACCOUNT from a BANK to another one")
    static void accountToAnotherBank() {
        AbroadRouter x = flat(2);
        wrong(() -> x.account(0, 0, 0, 0, 0));
        wrong(() -> x.account(1, 1, 0, 0, 0));
        due(() -> x.told(3), 0);
        due(() -> x.account(0, 1, 0, 0, 0), 0);
        due(() -> x.account(0, 1, 0, 0, 0), 1);
        due(() -> x.account(1, 0, 0, 0, 0), 2);
    }

    @Says(promise = 6, words = "of an ACCOUNT from now on (PAYMENTS stay as they were BOOKED): FEE of 1,000 by it")
    static void termsFromNowOn() {
        AbroadRouter x = flat(2);
        way(x, 0, 1, 0, 0, 7);
        booked(x, 0, 1, 500, 10);
        due(() -> x.terms(0, 9_999, 100, 0, 99_999), 10_099);
        due(() -> x.terms(0, 0, 0, 0, 0), 0);
        due(() -> x.terms(0, 5, 1, 6, 6), 6);
        due(() -> x.terms(0, 5, 1, 0, 5), 5);
        due(() -> x.terms(0, 0, 0, 99_999, 99_999), 99_999);
        due(() -> x.accountOf(0, 3), 507);
        due(() -> x.payment(0, 2), 7);
        x.go(10);
        due(() -> x.accountOf(0, 2), 99_493);
        due(() -> x.accountOf(0, 3), 0);
    }

    @Says(promise = 7, words = "of an ACCOUNT from now on (likewise): how many PAYMENTS are BOOKED with a HOP by it that has not LEFT")
    static void limitsCountWhoWaits() {
        AbroadRouter x = flat(3);
        way(x, 0, 1, 1, 0, 0);
        way(x, 1, 2, 0, 0, 0);
        due(() -> x.limits(0, 1_000_000, 9_999_999), 0);
        booked(x, 0, 2, 10, 0);
        booked(x, 0, 1, 10, 5);
        booked(x, 0, 1, 10, 9);
        due(() -> x.limits(0, 0, 0), 3);
        due(() -> x.limits(1, 0, 0), 1);
        due(() -> x.leg(0, 0, 1), 0);
        x.go(5);
        due(() -> x.limits(0, 0, 0), 1);
        due(() -> x.limits(1, 0, 0), 1);
        x.refuse(2);
        due(() -> x.limits(0, 0, 0), 0);
        x.go(DAY);
        due(() -> x.limits(1, 0, 0), 0);
        due(() -> x.told(6), 2);
    }

    @Says(promise = 8, words = "NONE, doing nothing: it would be above 999,999,999")
    static void fundUpToTheMost() {
        AbroadRouter x = flat(2);
        x.account(0, 1, 1439, 0, 100);
        for (int i = 1; i <= 99; i++) x.fund(0, 9_999_999);
        due(() -> x.fund(0, 9_999_999), 999_999_900);
        due(() -> x.fund(0, 100), NONE);
        due(() -> x.fund(0, 9_999_999), NONE);
        due(() -> x.accountOf(0, 2), 999_999_900);
        due(() -> x.line(0, 0, 2), 9_999_999);
        due(() -> x.fund(0, 99), 999_999_999);
        due(() -> x.fund(0, 1), NONE);
        due(() -> x.line(0, 0, 2), 99);
        // What goes BACK does so even then.
        booked(x, 0, 1, 1_000, 0);
        x.go(1);
        due(() -> x.fund(0, 1_000), 999_999_999);
        x.refuse(0);
        due(() -> x.forecast(0, 100), 1_000_000_999);
        x.go(99);
        due(() -> x.accountOf(0, 2), 1_000_000_999);
        due(() -> x.fund(0, 1), NONE);
        due(() -> x.draw(0, 1_000), 999_999_999);
    }

    @Says(promise = 9, words = "NONE, doing nothing: FREE is less than that")
    static void drawUpToFree() {
        AbroadRouter x = flat(2);
        x.account(0, 1, 1439, 0, 0);
        due(() -> x.draw(0, 1), NONE);
        missing(() -> x.line(0, 0, 0));
        x.fund(0, 1_000);
        x.terms(0, 5, 0, 0, 99_999);
        booked(x, 0, 1, 400, 10);
        due(() -> x.draw(0, 596), NONE);
        due(() -> x.accountOf(0, 2), 1_000);
        due(() -> x.line(0, 0, 1), 2);
        due(() -> x.draw(0, 595), 405);
        due(() -> x.accountOf(0, 4), 0);
        due(() -> x.draw(0, 1), NONE);
        x.go(10);
        due(() -> x.accountOf(0, 2), 0);
    }

    @Says(promise = 10, words = "An ACCOUNT is SHUT from now on, or not: whether it was.")
    static void shutAgain() {
        AbroadRouter x = row(2);
        due(() -> bit(x.shut(0, false)), 0);
        due(() -> bit(x.shut(0, true)), 0);
        due(() -> x.accountOf(0, 5), 1);
        due(() -> bit(x.shut(0, true)), 1);
        due(() -> bit(x.shut(0, false)), 1);
        due(() -> x.accountOf(0, 5), 0);
        due(() -> bit(x.shut(0, false)), 0);
        // What is BOOKED goes.
        booked(x, 0, 1, 10, 5);
        x.shut(0, true);
        due(() -> x.go(5), 2);
    }

    @Says(promise = 11, words = "all that is at or ahead of the new NOW happens")
    static void goUpToNow() {
        AbroadRouter x = flat(2);
        way(x, 0, 1, 0, 50, 0);
        booked(x, 0, 1, 10, 20);
        due(() -> x.go(19), 0);
        due(() -> x.go(1), 1);
        due(() -> x.go(29), 0);
        due(() -> x.go(1), 1);
        due(() -> x.told(6), 1);
        // BOOKED for NOW: with the next MINUTE.
        booked(x, 0, 1, 10, 50);
        due(() -> x.told(9), 50);
        due(() -> x.accountOf(0, 11), 1);
        due(() -> x.go(1), 2);
        due(() -> x.line(0, 0, 0), 50);
    }

    @Says(promise = 11, words = "how many HOPS LEFT, went BACK, and PAYMENTS were PAID")
    static void goCounts() {
        AbroadRouter x = flat(2);
        way(x, 0, 1, 1, 0, 0);
        booked(x, 0, 1, 10, 0);
        booked(x, 0, 1, 10, 0);
        due(() -> x.go(1), 2);
        x.refuse(0);
        booked(x, 0, 1, 10, DAY);
        // One goes BACK, one is PAID, one LEFT.
        due(() -> x.go(DAY), 3);
        due(() -> x.go(20_160), 1);
        due(() -> x.go(20_160), 0);
    }

    @Says(promise = 11, words = "NONE, doing nothing: it would be above LAST")
    static void goUpToLast() {
        AbroadRouter x = flat(2);
        way(x, 0, 1, 0, 0, 0);
        goTo(x, LAST - 5);
        booked(x, 0, 1, 10, LAST - 5);
        booked(x, 0, 1, 10, LAST);
        due(() -> x.go(6), NONE);
        due(() -> x.go(20_160), NONE);
        due(() -> x.told(0), LAST - 5);
        due(() -> x.payment(0, 4), 0);
        due(() -> x.go(5), 4);
        due(() -> x.told(0), LAST);
        due(() -> x.go(1), NONE);
        wrong(() -> x.go(0));
        // NOW is LAST: one can still be BOOKED, and never goes.
        due(() -> x.pay(0), 2);
        due(() -> x.told(9), LAST);
        due(() -> x.go(1), NONE);
        due(() -> x.until(LAST), 2);
    }

    // ---- promises 12 to 17: the ask, its routes, payments ----

    @Says(promise = 12, words = "an amount (1 to 1,000,000), a MINUTE (0 to LAST): how many ROUTES there are")
    static void askLeastAndMost() {
        AbroadRouter x = flat(2);
        way(x, 0, 1, 0, 0, 0);
        x.fund(0, 900_000);
        due(() -> x.ask(0, 1, 1, 0), 1);
        due(() -> x.ask(0, 1, 1_000_000, 0), 1);
        due(() -> x.ask(0, 1, 1, LAST), 1);
        due(() -> x.route(0, 0), LAST);
        due(() -> x.ask(0, 1, 1_000_000, LAST), 1);
        due(() -> x.pay(0), 0);
        due(() -> x.payment(0, 6), LAST);
        due(() -> x.ask(0, 1, 1, LAST), 0);
        due(() -> x.ask(1, 0, 1, 0), 0);
        // A MINUTE below NOW may be asked for.
        x.refuse(0);
        x.go(100);
        due(() -> x.ask(0, 1, 1, 0), 1);
        due(() -> x.route(0, 0), 0);
    }

    @Says(promise = 12, words = "how many ROUTES there are")
    static void askWithoutRoute() {
        AbroadRouter x = row(2);
        due(() -> x.ask(1, 0, 10, 0), 0);
        missing(() -> x.route(0, 0));
        missing(() -> x.step(0, 0, 0));
        missing(() -> x.pay(0));
        due(() -> x.cheapest(LAST), NONE);
        due(() -> x.latest(LAST), NONE);
        due(() -> x.most(LAST), 0);
        due(() -> x.bars(0), 0);
        due(() -> x.soonest(0), NONE);
        due(() -> x.soonest(1), NONE);
        due(() -> x.fewest(LAST), NONE);
        due(() -> x.delay(0), NONE);
        due(() -> x.needs(0, LAST), NONE);
        due(() -> x.without(0), 0);
        due(() -> x.vital(), 0);
        due(() -> x.told(4), 0);
        due(() -> x.status(0), 3);
        due(() -> x.status(1), 0);
    }

    @Says(promise = 13, words = "Of ROUTE k of the ASK")
    static void firstAndLastRoute() {
        AbroadRouter x = flat(2);
        way(x, 0, 1, 0, 100, 3);
        way(x, 0, 1, 0, 200, 2);
        way(x, 0, 1, 0, 300, 1);
        due(() -> x.ask(0, 1, 1, 0), 3);
        missing(() -> x.route(-1, 0));
        due(() -> x.route(0, 0), 100);
        due(() -> x.route(2, 0), 300);
        missing(() -> x.route(3, 0));
        x.shut(2, true);
        missing(() -> x.route(2, 0));
        due(() -> x.route(1, 0), 200);
        x.shut(0, true);
        x.shut(1, true);
        missing(() -> x.route(0, 0));
    }

    @Says(promise = 13, words = "(NoSuchElementException: also without an ASK; so below.)")
    static void noRouteWithoutAsk() {
        AbroadRouter x = row(2);
        missing(() -> x.route(0, 0));
        missing(() -> x.route(0, -1));
        missing(() -> x.step(0, 0, 0));
        missing(() -> x.step(0, 0, -1));
        missing(() -> x.pay(0));
        due(() -> x.status(0), 5);
        due(() -> x.status(1), 0);
    }

    @Says(promise = 14, words = "NoSuchElementException: there are not so many.")
    static void firstAndLastStep() {
        AbroadRouter x = row(6);
        x.ask(0, 5, 10, 0);
        missing(() -> x.step(0, -1, 0));
        due(() -> x.step(0, 0, 0), 0);
        due(() -> x.step(0, 4, 0), 4);
        missing(() -> x.step(0, 5, 0));
        missing(() -> x.step(0, 5, 5));
        missing(() -> x.step(1, 0, 0));
        x.ask(0, 1, 10, 0);
        missing(() -> x.step(0, 1, 0));
    }

    @Says(promise = 14, words = "4 by how many MINUTES later it could have come to its first BANK (at the i-th one; for 0: later than the MINUTE of the ASK) so that, by the same ACCOUNTS from there on, END were the same")
    static void stepCouldComeLater() {
        AbroadRouter x = flat(3);
        way(x, 0, 1, 0, 600, 0);
        way(x, 1, 2, 1, 0, 0);
        // To the second BANK at 600; up to 1,439 the END is the same.
        x.ask(0, 2, 10, 100);
        due(() -> x.step(0, 0, 4), 1_339);
        due(() -> x.step(0, 1, 4), 839);
        x.ask(0, 2, 10, 1_439);
        due(() -> x.step(0, 0, 4), 0);
        due(() -> x.step(0, 1, 4), 0);
        // To the one alone: READY at 600, later it is later.
        x.ask(0, 1, 10, 100);
        due(() -> x.step(0, 0, 4), 500);
        x.ask(0, 1, 10, 600);
        due(() -> x.step(0, 0, 4), 0);
        x.ask(0, 1, 10, 601);
        due(() -> x.step(0, 0, 4), 0);
        x.ask(0, 1, 10, LAST);
        due(() -> x.step(0, 0, 4), 0);
        stepCouldComeLaterByRoom();
    }
    /** A DAY without room is none by which one could come later. */
    private static void stepCouldComeLaterByRoom() {
        AbroadRouter x = flat(3);
        x.place(0, 0, 0, 1439);
        x.bank(1);
        way(x, 0, 3, 1, 0, 0);
        x.limits(0, 1_000_000, 100);
        booked(x, 0, 3, 100, 0);
        x.ask(0, 3, 100, 0);
        due(() -> x.step(0, 0, 1), DAY);
        due(() -> x.step(0, 0, 4), 2 * DAY - 1);
        x.ask(0, 3, 100, DAY);
        due(() -> x.step(0, 0, 4), DAY - 1);
        // No BUSINESS DAY there: who comes on DAY 3 is as soon as who comes up to the end of DAY 4.
        x.holiday(1, 3);
        x.holiday(1, 5);
        x.ask(0, 3, 100, 3 * DAY);
        due(() -> x.route(0, 0), 6 * DAY);
        due(() -> x.step(0, 0, 4), 2 * DAY - 1);
    }

    @Says(promise = 15, words = "its number; -1: there are 64; -2: the MINUTE of the ASK is below NOW. (-1, -2: nothing is done.)")
    static void sixtyFourPayments() {
        AbroadRouter x = flat(2);
        way(x, 0, 1, 0, 0, 0);
        x.go(10);
        x.ask(0, 1, 1, 9);
        due(() -> x.pay(0), -2);
        missing(() -> x.pay(1));
        missing(() -> x.pay(-1));
        due(() -> x.told(4), 0);
        due(() -> x.accountOf(0, 3), 0);
        due(() -> x.used(0, 0), 0);
        x.ask(0, 1, 1, 10);
        for (int i = 0; i < 64; i++) { int n = i; due(() -> x.pay(0), n); }
        due(() -> x.pay(0), -1);
        due(() -> x.told(4), 64);
        due(() -> x.accountOf(0, 3), 64);
        due(() -> x.used(0, 0), 64);
        due(() -> x.tied(0), -1L);
        missing(() -> x.payment(64, 0));
        missing(() -> x.pay(1));
        due(() -> x.limits(0, 1_000_000, 9_999_999), 64);
        // Both: the first one that is named.
        x.go(1);
        due(() -> x.pay(0), -1);
        due(() -> x.told(6), 64);
        due(() -> x.pay(0), -1);
        due(() -> x.payment(63, 0), 1);
    }

    @Says(promise = 16, words = "A PAYMENT is REFUSED: 1; 0: it is not BOOKED.")
    static void refuseOnce() {
        AbroadRouter x = flat(2);
        way(x, 0, 1, 0, 100, 5);
        booked(x, 0, 1, 10, 0);
        booked(x, 0, 1, 10, 0);
        booked(x, 0, 1, 10, 50);
        x.go(10);
        due(() -> x.refuse(1), 1);
        due(() -> x.refuse(1), 0);
        due(() -> x.payment(1, 0), 2);
        due(() -> x.refuse(2), 1);
        due(() -> x.refuse(2), 0);
        due(() -> x.payment(2, 0), 3);
        x.go(90);
        due(() -> x.payment(0, 0), 1);
        due(() -> x.refuse(0), 0);
        due(() -> x.payment(0, 0), 1);
        due(() -> x.refuse(1), 0);
        due(() -> x.payment(1, 0), 3);
        due(() -> x.accountOf(0, 2), 100_000 - 15 - 5);
        due(() -> x.accountOf(0, 3), 0);
        missing(() -> x.refuse(3));
    }

    @Says(promise = 17, words = "NONE: it is not BOOKED, or all HOPS have LEFT")
    static void rerouteNone() {
        AbroadRouter x = flat(2);
        way(x, 0, 1, 1, 100, 0);
        for (int i = 0; i < 4; i++) booked(x, 0, 1, 10, i == 3 ? 5_000 : 0);
        x.refuse(2);
        x.go(1);
        way(x, 0, 1, 0, 0, 0);
        due(() -> x.refuse(1), 1);
        due(() -> x.reroute(0), NONE);
        due(() -> x.reroute(1), NONE);
        due(() -> x.reroute(2), NONE);
        x.go(DAY + 99);
        due(() -> x.payment(0, 0), 1);
        due(() -> x.payment(1, 0), 3);
        due(() -> x.reroute(0), NONE);
        due(() -> x.reroute(1), NONE);
        due(() -> x.reroute(3), 4 * DAY + 100 - 5_000);
    }

    @Says(promise = 17, words = "is its END less than the one of the PAYMENT ahead of that, it has these HOPS in place of those released: how many MINUTES less; else all is as it was: 0")
    static void rerouteOnlyIfSooner() {
        AbroadRouter x = flat(2);
        way(x, 0, 1, 0, 500, 5);
        booked(x, 0, 1, 100, 0);
        // As soon, and cheaper: no.
        int cheap = way(x, 0, 1, 0, 500, 0);
        due(() -> x.reroute(0), 0);
        due(() -> x.leg(0, 0, 0), 0);
        due(() -> x.accountOf(0, 3), 105);
        due(() -> x.used(0, 0), 100);
        due(() -> x.accountOf(cheap, 3), 0);
        due(() -> x.used(cheap, 0), 0);
        // A MINUTE sooner, and dearer: yes.
        int dear = way(x, 0, 1, 0, 499, 900);
        due(() -> x.reroute(0), 1);
        due(() -> x.leg(0, 0, 0), dear);
        due(() -> x.accountOf(0, 3), 0);
        due(() -> x.used(0, 0), 0);
        due(() -> x.accountOf(dear, 3), 1_000);
        due(() -> x.used(dear, 0), 100);
        due(() -> x.late(0), -1);
        due(() -> x.reroute(0), 0);
        // None at all.
        for (int i = 0; i < 3; i++) x.shut(i, true);
        due(() -> x.reroute(0), 0);
        due(() -> x.accountOf(dear, 3), 1_000);
        due(() -> x.payment(0, 6), 499);
    }

    @Says(promise = 17, words = "its HOPS that have not LEFT are released; then, for its amount, from the BANK to which the last that LEFT goes, and when that ARRIVES (without: from its first BANK, and the MINUTE of its ASK), from NOW on, too")
    static void rerouteFrom() {
        AbroadRouter x = flat(3);
        way(x, 0, 1, 0, 100, 0);
        way(x, 1, 2, 0, 1_000, 0);
        booked(x, 0, 2, 60_000, 50);
        // By ACCOUNT 0 only what it HOLDS itself is enough; from the MINUTE of its ASK.
        int next = way(x, 1, 2, 0, 0, 0);
        due(() -> x.reroute(0), 900);
        due(() -> x.leg(0, 0, 1), 50);
        due(() -> x.leg(0, 1, 0), next);
        due(() -> x.accountOf(0, 3), 60_000);
        due(() -> x.accountOf(1, 3), 0);
        due(() -> x.accountOf(next, 3), 60_000);
        x.shut(next, true);
        booked(x, 0, 2, 30_000, 50);
        due(() -> x.payment(1, 6), 1_000);
        x.go(60);
        // From when HOP 0 ARRIVES.
        x.shut(next, false);
        due(() -> x.payment(1, 4), 1);
        due(() -> x.reroute(1), 900);
        due(() -> x.leg(1, 1, 1), 100);
        due(() -> x.leg(1, 1, 0), next);
        // From NOW on: HOP 0 has ARRIVED, and waits for room.
        AbroadRouter y = flat(3);
        way(y, 0, 1, 0, 0, 0);
        way(y, 1, 2, 0, 0, 0);
        y.limits(1, 100, 100);
        booked(y, 1, 2, 100, 0);
        booked(y, 0, 2, 100, 0);
        due(() -> y.leg(1, 1, 1), DAY);
        y.go(700);
        y.limits(1, 100, 200);
        due(() -> y.reroute(1), DAY - 700);
        due(() -> y.leg(1, 1, 1), 700);
        due(() -> y.leg(1, 0, 1), 0);
    }

    @Says(promise = 17, words = "over no BANK at which it was, of so few ACCOUNTS that it has 5 HOPS at most in all")
    static void rerouteFiveInAll() {
        AbroadRouter x = flat(8);
        way(x, 0, 1, 0, 100, 0);
        way(x, 1, 2, 0, 200, 0);
        way(x, 2, 7, 5, 0, 0);
        booked(x, 0, 7, 100, 0);
        x.go(100);
        due(() -> x.payment(0, 4), 2);
        // By 0 or 1 it would be sooner, but it was there.
        way(x, 2, 0, 0, 0, 0);
        way(x, 2, 1, 0, 0, 0);
        way(x, 0, 7, 0, 0, 0);
        way(x, 1, 7, 0, 0, 0);
        due(() -> x.reroute(0), 0);
        // 2 and 4 are too many, 2 and 3 are not.
        for (int i = 2; i < 5; i++) way(x, i, i + 1, 0, 0, 0);
        way(x, 5, 7, 0, 0, 0);
        due(() -> x.reroute(0), 0);
        way(x, 4, 7, 0, 0, 0);
        due(() -> x.reroute(0), 5 * DAY - 200);
        due(() -> x.payment(0, 3), 5);
        due(() -> x.payment(0, 6), 200);
        due(() -> x.leg(0, 4, 0), x.told(3) - 1);
        missing(() -> x.leg(0, 5, 0));
    }

    @Says(promise = 17, words = "that of the least END, of these of the least FEES, then as of ROUTES")
    static void rerouteTies() {
        AbroadRouter x = flat(3);
        way(x, 0, 1, 1, 0, 0);
        booked(x, 0, 1, 100, 0);
        way(x, 0, 1, 0, 200, 1);
        way(x, 0, 1, 0, 100, 9);
        way(x, 0, 2, 0, 100, 4);
        way(x, 2, 1, 0, 100, 4);
        due(() -> x.reroute(0), DAY - 100);
        due(() -> x.payment(0, 3), 2);
        due(() -> x.payment(0, 2), 8);
        AbroadRouter y = flat(3);
        way(y, 0, 1, 1, 0, 0);
        booked(y, 0, 1, 100, 0);
        way(y, 0, 2, 0, 100, 4);
        way(y, 2, 1, 0, 100, 4);
        way(y, 0, 1, 0, 100, 8);
        way(y, 0, 1, 0, 100, 8);
        due(() -> y.reroute(0), DAY - 100);
        due(() -> y.payment(0, 3), 1);
        due(() -> y.leg(0, 0, 0), 3);
    }

    // ---- promises 18 to 24: what stands ----

    @Says(promise = 18, words = "9 the next MINUTE at which anything happens (NONE)")
    static void nextMinuteOrNone() {
        AbroadRouter x = flat(2);
        due(() -> x.told(9), NONE);
        way(x, 0, 1, 0, 100, 0);
        booked(x, 0, 1, 10, 0);
        due(() -> x.told(9), 0);
        x.go(1);
        due(() -> x.told(9), 100);
        x.go(98);
        due(() -> x.told(9), 100);
        x.go(1);
        due(() -> x.told(9), NONE);
        booked(x, 0, 1, 10, LAST);
        due(() -> x.told(9), LAST);
        x.refuse(1);
        due(() -> x.told(9), NONE);
    }

    @Says(promise = 19, words = "4 HOLIDAYS, 5 its DAY NOW, 6 its HOUR NOW, 7 1 it is OPEN NOW, 0 not")
    static void placeNow() {
        AbroadRouter x = new AbroadRouter();
        x.place(-720, 64, 719, 720);
        due(() -> x.placeOf(0, 4), 0);
        due(() -> x.placeOf(0, 5), -1);
        due(() -> x.placeOf(0, 6), 720);
        // HOUR is right, DAY -1 is off.
        due(() -> x.placeOf(0, 7), 0);
        x.go(720 + 718);
        due(() -> x.placeOf(0, 7), 0);
        x.go(1);
        due(() -> x.placeOf(0, 7), 1);
        x.go(1);
        due(() -> x.placeOf(0, 7), 1);
        x.go(1);
        due(() -> x.placeOf(0, 7), 0);
    }

    @Says(promise = 20, words = "11 HOPS that LEFT by it, 12 that went BACK")
    static void accountCounts() {
        AbroadRouter x = flat(2);
        way(x, 0, 1, 0, 100, 0);
        for (int i = 0; i < 3; i++) booked(x, 0, 1, 10, 50);
        due(() -> x.accountOf(0, 11), 0);
        x.refuse(0);
        x.go(50);
        due(() -> x.accountOf(0, 11), 2);
        x.refuse(1);
        due(() -> x.accountOf(0, 12), 0);
        x.go(50);
        due(() -> x.accountOf(0, 12), 1);
        due(() -> x.accountOf(0, 11), 2);
    }

    @Says(promise = 21, words = "7 the BANK to which the last HOP that LEFT goes (the first BANK of all, if none has), but, if any went BACK, that from which the last of these goes")
    static void whereThePaymentIs() {
        AbroadRouter x = new AbroadRouter();
        x.place(0, 0, 0, 1439);
        x.place(0, 0, 0, 100);
        for (int i = 0; i < 4; i++) x.bank(i == 0 ? 1 : 0);
        way(x, 1, 0, 0, 50, 0);
        way(x, 0, 2, 0, 90, 0);
        way(x, 2, 3, 0, 500, 0);
        booked(x, 1, 3, 10, 10);
        due(() -> x.payment(0, 7), 1);
        x.go(10);
        due(() -> x.payment(0, 7), 0);
        x.go(40);
        due(() -> x.payment(0, 7), 2);
        x.go(40);
        due(() -> x.payment(0, 7), 3);
        x.refuse(0);
        due(() -> x.payment(0, 7), 3);
        x.go(410);
        due(() -> x.payment(0, 5), 1);
        due(() -> x.payment(0, 7), 2);
        x.go(DAY);
        due(() -> x.payment(0, 5), 3);
        due(() -> x.payment(0, 7), 1);
    }

    @Says(promise = 21, words = "2 FEES of all HOPS, 3 HOPS, 4 HOPS that LEFT, 5 HOPS that went BACK")
    static void hopsOneAndFive() {
        AbroadRouter x = row(6);
        for (int i = 0; i < 5; i++) x.terms(i, 1 << i, 0, 0, 99_999);
        booked(x, 0, 5, 10, 0);
        booked(x, 4, 5, 10, 0);
        due(() -> x.payment(0, 2), 31);
        due(() -> x.payment(0, 3), 5);
        due(() -> x.payment(0, 4), 0);
        due(() -> x.payment(1, 2), 16);
        due(() -> x.payment(1, 3), 1);
        way(x, 5, 0, 0, 0, 0);
        due(() -> x.tied(5), 0);
        due(() -> x.tied(4), 3);
        due(() -> x.shared(0, 0), 31);
        x.go(1);
        due(() -> x.payment(0, 4), 5);
        due(() -> x.payment(0, 5), 0);
        // Fewer HOPS than before.
        AbroadRouter y = flat(3);
        way(y, 0, 1, 0, 100, 3);
        way(y, 1, 2, 0, 100, 4);
        booked(y, 0, 2, 10, 0);
        due(() -> y.payment(0, 2), 7);
        way(y, 0, 2, 0, 0, 9);
        due(() -> y.reroute(0), 100);
        due(() -> y.payment(0, 2), 9);
        due(() -> y.payment(0, 3), 1);
        missing(() -> y.leg(0, 1, 0));
    }

    @Says(promise = 21, words = "6 END (as laid now, or as it was when it was REFUSED)")
    static void endWhenRefused() {
        AbroadRouter x = flat(2);
        x.place(0, 0, 0, 1439);
        x.bank(1);
        way(x, 0, 2, 1, 0, 0);
        booked(x, 0, 2, 10, 0);
        due(() -> x.payment(0, 6), DAY);
        x.holiday(1, 1);
        due(() -> x.payment(0, 6), 2 * DAY);
        x.refuse(0);
        x.holiday(1, 2);
        due(() -> x.payment(0, 6), 2 * DAY);
        due(() -> x.late(0), DAY);
    }

    @Says(promise = 21, words = "8 the next MINUTE at which anything of it happens (NONE)")
    static void nextOfThePayment() {
        AbroadRouter x = flat(3);
        way(x, 0, 1, 0, 100, 0);
        way(x, 1, 2, 0, 200, 0);
        booked(x, 0, 2, 10, 50);
        booked(x, 0, 2, 10, 50);
        booked(x, 0, 2, 10, 50);
        due(() -> x.payment(0, 8), 50);
        x.go(50);
        due(() -> x.payment(0, 8), 100);
        x.go(50);
        due(() -> x.payment(0, 8), 200);
        x.refuse(1);
        due(() -> x.payment(1, 8), 200);
        x.go(100);
        for (int i = 0; i < 3; i++) { int p = i; due(() -> x.payment(p, 8), NONE); }
        due(() -> x.payment(0, 0), 1);
        due(() -> x.payment(1, 0), 3);
    }

    @Says(promise = 22, words = "4 when it goes BACK (NONE, but for those of REFUSED ones that had LEFT), 5 1 it went BACK, 0 not")
    static void whenAHopGoesBack() {
        AbroadRouter x = flat(3);
        way(x, 0, 1, 0, 100, 0);
        way(x, 1, 2, 0, 200, 0);
        booked(x, 0, 2, 10, 50);
        due(() -> x.leg(0, 0, 4), NONE);
        x.go(50);
        due(() -> x.leg(0, 0, 4), NONE);
        x.refuse(0);
        due(() -> x.leg(0, 0, 4), 100);
        due(() -> x.leg(0, 0, 5), 0);
        due(() -> x.leg(0, 1, 4), NONE);
        x.go(50);
        due(() -> x.leg(0, 0, 5), 1);
        due(() -> x.leg(0, 0, 4), 100);
        due(() -> x.leg(0, 1, 5), 0);
        due(() -> x.leg(0, 0, 3), 1);
        due(() -> x.leg(0, 1, 3), 0);
    }

    @Says(promise = 23, words = "USED of a DAY (0 to 399) of an ACCOUNT.")
    static void usedOnFirstAndLastDay() {
        AbroadRouter x = new AbroadRouter();
        x.place(0, 0, 0, 1439);
        x.place(-720, 0, 0, 1439);
        x.place(840, 0, 0, 1439);
        for (int i = 0; i < 3; i++) x.bank(i);
        way(x, 0, 1, 0, 0, 0);
        way(x, 0, 2, 0, 0, 0);
        due(() -> x.used(0, 0), 0);
        due(() -> x.used(0, 399), 0);
        booked(x, 0, 1, 1, 719);
        booked(x, 0, 1, 2, 720);
        booked(x, 0, 1, 4, LAST);
        due(() -> x.used(0, 0), 2);
        due(() -> x.used(0, 399), 4);
        booked(x, 0, 2, 1, 599);
        booked(x, 0, 2, 2, 600);
        booked(x, 0, 2, 4, LAST - 840);
        booked(x, 0, 2, 8, LAST - 839);
        due(() -> x.used(1, 0), 1);
        due(() -> x.used(1, 1), 2);
        due(() -> x.used(1, 399), 4);
        wrong(() -> x.used(1, 400));
        wrong(() -> x.used(0, -1));
    }

    @Says(promise = 24, words = "FEE of an amount (1 to 1,000,000) by an ACCOUNT.")
    static void feeOfLeastAndMost() {
        AbroadRouter x = row(2);
        x.terms(0, 1, 100, 0, 99_999);
        due(() -> x.fee(0, 1), 1);
        due(() -> x.fee(0, 9), 1);
        due(() -> x.fee(0, 10), 2);
        due(() -> x.fee(0, 999_979), 99_998);
        due(() -> x.fee(0, 999_980), 99_999);
        due(() -> x.fee(0, 1_000_000), 99_999);
    }

    // ---- promises 25 to 37: places, accounts, money ----

    @Says(promise = 25, words = "Whether a PLACE is OPEN at a MINUTE (0 to LAST).")
    static void openAtFirstAndLast() {
        AbroadRouter x = new AbroadRouter();
        x.place(0, 0, 0, 1);
        x.place(0, 0, 1438, 1439);
        x.place(-720, 0, 720, 721);
        x.place(840, 0, 838, 839);
        long[] first = {1, 0, 1, 0};
        long[] last = {0, 1, 0, 1};
        for (int i = 0; i < 4; i++) {
            int place = i;
            due(() -> bit(x.open(place, 0)), first[place]);
            due(() -> bit(x.open(place, LAST)), last[place]);
        }
        due(() -> bit(x.open(2, 1)), 1);
        due(() -> bit(x.open(2, 2)), 0);
        due(() -> bit(x.open(3, LAST - 2)), 0);
    }

    @Says(promise = 26, words = "The least MINUTE from one on, LAST at most, at which it is; NONE.")
    static void nextUpToLast() {
        AbroadRouter x = new AbroadRouter();
        x.place(0, 0, 100, 200);
        x.place(0, 0, 1438, 1439);
        x.place(840, 0, 839, 900);
        x.place(840, 0, 840, 900);
        x.place(-720, 63, 0, 1439);
        due(() -> x.next(0, 0), 100);
        due(() -> x.next(0, 100), 100);
        due(() -> x.next(0, 200), 200);
        due(() -> x.next(0, 201), DAY + 100);
        due(() -> x.next(0, 399 * DAY + 200), 399 * DAY + 200);
        due(() -> x.next(0, 399 * DAY + 201), NONE);
        due(() -> x.next(0, LAST), NONE);
        due(() -> x.next(1, LAST), LAST);
        // On DAY 400 there: at LAST, or one too late.
        due(() -> x.next(2, LAST - 838), LAST);
        due(() -> x.next(3, LAST - 838), NONE);
        // On DAY -1 there.
        due(() -> x.next(4, 0), 0);
        due(() -> x.next(4, 720), 6 * DAY + 720);
        x.holiday(1, 399);
        due(() -> x.next(1, 399 * DAY), NONE);
        due(() -> x.next(1, 399 * DAY - 1), 399 * DAY - 1);
    }

    @Says(promise = 27, words = "The n-th (0 to 20) BUSINESS DAY of a PLACE behind a DAY (0 to 399; n 0: that DAY itself, BUSINESS DAY or not).")
    static void afterFirstAndLast() {
        AbroadRouter x = new AbroadRouter();
        x.place(0, 0, 0, 1);
        x.place(0, 126, 0, 1);
        due(() -> x.after(0, 0, 0), 0);
        due(() -> x.after(0, 399, 0), 399);
        due(() -> x.after(0, 399, 1), 400);
        due(() -> x.after(0, 399, 20), 419);
        due(() -> x.after(1, 5, 0), 5);
        due(() -> x.after(1, 5, 1), 7);
        due(() -> x.after(1, 7, 1), 14);
        due(() -> x.after(1, 0, 20), 140);
        due(() -> x.after(1, 399, 20), 539);
        x.holiday(1, 7);
        due(() -> x.after(1, 7, 0), 7);
        due(() -> x.after(1, 0, 1), 14);
        // 40 HOLIDAYS in a row, of the only DAY of a week.
        for (int week = 2; week <= 40; week++) x.holiday(1, week * 7);
        due(() -> x.after(1, 0, 1), 287);
        due(() -> x.after(1, 0, 20), 287 + 19 * 7);
    }

    @Says(promise = 28, words = "How many DAYS, one behind the other, from a DAY (0 to 399) on, are no BUSINESS DAYS of a PLACE.")
    static void idleFirstAndLast() {
        AbroadRouter x = new AbroadRouter();
        x.place(0, 0, 0, 1);
        x.place(0, 126, 0, 1);
        x.place(0, 1, 0, 1);
        due(() -> x.idle(0, 0), 0);
        due(() -> x.idle(0, 399), 0);
        due(() -> x.idle(1, 0), 0);
        due(() -> x.idle(1, 1), 6);
        due(() -> x.idle(1, 394), 5);
        due(() -> x.idle(2, 0), 1);
        due(() -> x.idle(2, 399), 1);
        x.holiday(0, 399);
        due(() -> x.idle(0, 398), 0);
        due(() -> x.idle(0, 399), 1);
        // Behind DAY 399 the week goes on.
        x.holiday(1, 399);
        due(() -> x.idle(1, 399), 7);
        due(() -> x.idle(1, 393), 13);
    }

    @Says(promise = 29, words = "At how many MINUTES of a DAY (0 to 399) of an ACCOUNT (0 to LAST alone) an amount of 1 CAN LEAVE by it.")
    static void hoursFromZeroToLast() {
        AbroadRouter x = new AbroadRouter();
        x.place(0, 0, 0, 1439);
        x.place(840, 0, 0, 1439);
        x.place(-720, 0, 0, 1439);
        for (int i = 0; i < 3; i++) x.bank(i);
        x.account(0, 1, 1439, 0, 0);
        x.account(0, 2, 1439, 0, 0);
        x.account(1, 0, 1439, 0, 0);
        x.account(0, 1, 839, 0, 0);
        x.account(0, 1, 840, 0, 0);
        x.account(0, 2, 719, 0, 0);
        x.account(0, 2, 720, 0, 0);
        // DAY 0 there began 840 MINUTES ahead of 0; DAY 399 ends 720 behind LAST.
        due(() -> x.hours(0, 0), 600);
        due(() -> x.hours(0, 1), 1440);
        due(() -> x.hours(0, 399), 1440);
        due(() -> x.hours(1, 0), 1440);
        due(() -> x.hours(1, 399), 720);
        due(() -> x.hours(2, 0), 1440);
        due(() -> x.hours(3, 0), 0);
        due(() -> x.hours(4, 0), 1);
        due(() -> x.hours(5, 399), 720);
        due(() -> x.hours(6, 399), 720);
        due(() -> x.hours(6, 398), 721);
        // The room of a DAY: 1 more is just enough, or not.
        x.fund(0, 1_000);
        x.limits(0, 0, 1);
        due(() -> x.hours(0, 1), 1440);
        x.limits(0, 0, 0);
        due(() -> x.hours(0, 1), 0);
        x.limits(0, 100, 100);
        booked(x, 0, 1, 99, 700);
        due(() -> x.hours(0, 1), 1440);
        booked(x, 0, 1, 1, 700);
        due(() -> x.hours(0, 1), 0);
        due(() -> x.hours(0, 2), 1440);
        x.holiday(0, 1);
        // DAY 2 there is from 2,040 to 3,479, the first PLACE has no DAY 1.
        due(() -> x.hours(0, 2), 600);
    }

    @Says(promise = 30, words = "of alike ones the first, how much (1); NONE, 0: nothing is")
    static void busiestOrNone() {
        AbroadRouter x = flat(2);
        way(x, 0, 1, 0, 0, 0);
        due(() -> x.busiest(0, 0), NONE);
        due(() -> x.busiest(0, 1), 0);
        booked(x, 0, 1, 1, LAST);
        due(() -> x.busiest(0, 0), 399);
        due(() -> x.busiest(0, 1), 1);
        booked(x, 0, 1, 1, 5 * DAY);
        due(() -> x.busiest(0, 0), 5);
        booked(x, 0, 1, 1, 0);
        due(() -> x.busiest(0, 0), 0);
        booked(x, 0, 1, 1, LAST);
        due(() -> x.busiest(0, 0), 399);
        due(() -> x.busiest(0, 1), 2);
        for (int i = 0; i < 4; i++) x.refuse(i);
        due(() -> x.busiest(0, 0), NONE);
        due(() -> x.busiest(0, 1), 0);
    }

    @Says(promise = 31, words = "PAYMENTS (bits) that are BOOKED with a HOP by an ACCOUNT that has not LEFT.")
    static void tiedFirstAndLast() {
        AbroadRouter x = flat(3);
        way(x, 0, 1, 0, 0, 0);
        way(x, 1, 2, 0, 0, 0);
        due(() -> x.tied(0), 0);
        x.ask(0, 1, 1, 10);
        for (int i = 0; i < 63; i++) x.pay(0);
        due(() -> x.tied(0), Long.MAX_VALUE);
        booked(x, 0, 2, 1, 20);
        due(() -> x.tied(0), -1L);
        due(() -> x.tied(1), Long.MIN_VALUE);
        x.go(19);
        due(() -> x.tied(0), Long.MIN_VALUE);
        x.refuse(63);
        due(() -> x.tied(0), 0);
        due(() -> x.tied(1), 0);
    }

    @Says(promise = 32, words = "Of the k-th (0 the latest, 11 at most) of what moved BALANCE of an ACCOUNT")
    static void twelveLatestLines() {
        AbroadRouter x = flat(2);
        x.account(0, 1, 1439, 0, 0);
        missing(() -> x.line(0, 0, 0));
        for (int i = 1; i <= 12; i++) {
            int n = i;
            x.fund(0, n);
            due(() -> x.line(0, 0, 2), n);
            due(() -> x.line(0, n - 1, 2), 1);
            missing(() -> x.line(0, n, 2));
        }
        x.fund(0, 13);
        due(() -> x.line(0, 0, 2), 13);
        due(() -> x.line(0, 11, 2), 2);
        due(() -> x.line(0, 11, 3), 3);
        missing(() -> x.line(0, 12, 2));
        missing(() -> x.line(0, -1, 2));
        for (int i = 14; i <= 40; i++) x.fund(0, i);
        for (int k = 0; k < 12; k++) { int line = k; due(() -> x.line(0, line, 2), 40 - line); }
        missing(() -> x.line(0, 12, 2));
    }

    @Says(promise = 32, words = "4 the PAYMENT (NONE). NoSuchElementException: there are not so many.")
    static void linesOfAllKinds() {
        AbroadRouter x = flat(2);
        x.account(0, 1, 1439, 0, 100);
        x.account(0, 1, 1439, 0, 100);
        x.fund(0, 1_000);
        x.draw(0, 1);
        // What does nothing writes nothing.
        due(() -> x.draw(0, 1_000), NONE);
        wrong(() -> x.fund(0, 0));
        missing(() -> x.line(0, 2, 0));
        x.terms(0, 9, 0, 0, 99_999);
        booked(x, 0, 1, 500, 50);
        missing(() -> x.line(0, 2, 0));
        x.go(60);
        x.refuse(0);
        missing(() -> x.line(0, 3, 0));
        x.go(60);
        long[][] want = {{100, 1, 500, 990, 0}, {50, 0, 509, 490, 0}, {0, 3, 1, 999, NONE}, {0, 2, 1_000, 1_000, NONE}};
        for (int k = 0; k < 4; k++) {
            int line = k;
            for (int what = 0; what <= 4; what++) { int w = what; due(() -> x.line(0, line, w), want[line][w]); }
        }
        missing(() -> x.line(0, 4, 0));
        // Another ACCOUNT has its own.
        missing(() -> x.line(1, 0, 0));
    }

    @Says(promise = 33, words = "BALANCE of an ACCOUNT at a MINUTE (NOW to LAST), behind all that happens by then, as PAYMENTS are laid now.")
    static void forecastFromNowToLast() {
        AbroadRouter x = flat(2);
        way(x, 0, 1, 0, 500, 3);
        booked(x, 0, 1, 100, 20);
        booked(x, 0, 1, 200, LAST);
        due(() -> x.forecast(0, 0), 100_000);
        due(() -> x.forecast(0, 19), 100_000);
        due(() -> x.forecast(0, 20), 99_897);
        due(() -> x.forecast(0, LAST - 1), 99_897);
        due(() -> x.forecast(0, LAST), 99_694);
        x.go(20);
        wrong(() -> x.forecast(0, 19));
        due(() -> x.forecast(0, 20), 99_897);
        x.refuse(0);
        due(() -> x.forecast(0, 499), 99_897);
        due(() -> x.forecast(0, 500), 99_997);
        booked(x, 0, 1, 50, 20);
        due(() -> x.forecast(0, 20), 99_844);
        due(() -> x.accountOf(0, 2), 99_897);
    }

    @Says(promise = 34, words = "The least BALANCE of an ACCOUNT, now and behind each MINUTE to come, likewise (what 0); the first MINUTE behind which it is so (1; NOW, if it is so now).")
    static void lowestNowOrLater() {
        AbroadRouter x = flat(2);
        x.account(0, 1, 1439, 0, 500);
        due(() -> x.lowest(0, 0), 0);
        due(() -> x.lowest(0, 1), 0);
        x.fund(0, 1_000);
        booked(x, 0, 1, 100, 20);
        due(() -> x.lowest(0, 0), 900);
        due(() -> x.lowest(0, 1), 20);
        x.go(10);
        due(() -> x.lowest(0, 1), 20);
        x.go(20);
        due(() -> x.lowest(0, 0), 900);
        due(() -> x.lowest(0, 1), 30);
        x.refuse(0);
        // 900 now, 1,000 at 500, 900 again at 600: now is the first.
        booked(x, 0, 1, 100, 600);
        due(() -> x.lowest(0, 0), 900);
        due(() -> x.lowest(0, 1), 30);
        booked(x, 0, 1, 1, 600);
        due(() -> x.lowest(0, 0), 899);
        due(() -> x.lowest(0, 1), 600);
        booked(x, 0, 1, 1, LAST);
        due(() -> x.lowest(0, 0), 898);
        due(() -> x.lowest(0, 1), LAST);
        // BOOKED for NOW: behind NOW.
        booked(x, 0, 1, 500, 30);
        due(() -> x.lowest(0, 0), 398);
        x.refuse(3);
        due(() -> x.lowest(0, 0), 399);
        due(() -> x.lowest(0, 1), 600);
        lowestBehindAMinute();
    }
    /** One LEAVES, and another one goes BACK at the same MINUTE: what is between them does not count. */
    private static void lowestBehindAMinute() {
        AbroadRouter x = flat(2);
        x.account(0, 1, 1439, 0, 500);
        x.fund(0, 1_000);
        booked(x, 0, 1, 400, 500);
        booked(x, 0, 1, 500, 20);
        x.go(30);
        x.refuse(1);
        due(() -> x.lowest(0, 0), 500);
        due(() -> x.lowest(0, 1), 30);
        due(() -> x.forecast(0, 500), 600);
        x.go(470);
        due(() -> x.line(0, 1, 3), 100);
        due(() -> x.line(0, 0, 3), 600);
        lowestTwice();
    }
    /** As low twice: the first of both, whatever was BOOKED first. */
    private static void lowestTwice() {
        AbroadRouter x = flat(2);
        x.account(0, 1, 1439, 0, 500);
        x.fund(0, 1_000);
        booked(x, 0, 1, 100, 900);
        booked(x, 0, 1, 100, 20);
        booked(x, 0, 1, 50, 300);
        booked(x, 0, 1, 50, 310);
        x.go(30);
        x.refuse(1);
        // 900; at 300 850, at 310 800, at 500 900, at 900 800.
        due(() -> x.lowest(0, 0), 800);
        due(() -> x.lowest(0, 1), 310);
    }

    @Says(promise = 35, words = "is later than it was when it was BOOKED (below 0: sooner)")
    static void lateSoonerOrNot() {
        AbroadRouter x = flat(2);
        x.place(0, 0, 0, 1439);
        x.bank(1);
        way(x, 0, 2, 1, 0, 0);
        booked(x, 0, 2, 10, 0);
        due(() -> x.late(0), 0);
        x.holiday(1, 1);
        due(() -> x.late(0), DAY);
        way(x, 0, 2, 0, 1, 0);
        due(() -> x.reroute(0), 2 * DAY - 1);
        due(() -> x.late(0), 1 - DAY);
        // Sooner than when it was BOOKED, but not than what it was laid to: from then on it counts on.
        due(() -> x.reroute(0), 0);
        due(() -> x.late(0), 1 - DAY);
        x.go(DAY);
        due(() -> x.payment(0, 0), 1);
        due(() -> x.late(0), 1 - DAY);
    }

    @Says(promise = 36, words = "When an amount LEAVES by an ACCOUNT from a MINUTE on (SHUT, FREE not asked); NONE: never.")
    static void leavesSaveShutAndFree() {
        AbroadRouter x = flat(2);
        x.account(0, 1, 1439, 1, 0);
        due(() -> x.leaves(0, 0, 1_000_000), 0);
        x.shut(0, true);
        due(() -> x.leaves(0, 5, 1_000_000), 5);
        // It LEAVES, even if it never ARRIVES.
        due(() -> x.leaves(0, LAST, 1), LAST);
        due(() -> x.arrives(0, LAST, 1), NONE);
        x.limits(0, 9, 9);
        due(() -> x.leaves(0, 0, 9), 0);
        due(() -> x.leaves(0, 0, 10), NONE);
        x.limits(0, 10, 9);
        due(() -> x.leaves(0, 0, 10), NONE);
        // A MINUTE below NOW may be asked for.
        x.go(100);
        due(() -> x.leaves(0, 0, 9), 0);
    }

    @Says(promise = 37, words = "When it ARRIVES; NONE: never.")
    static void arrivesOrNever() {
        AbroadRouter x = flat(2);
        x.account(0, 1, 600, 0, 700);
        due(() -> x.arrives(0, 0, 1), 700);
        due(() -> x.arrives(0, 601, 1), DAY + 700);
        due(() -> x.arrives(0, 399 * DAY + 600, 1), 399 * DAY + 700);
        due(() -> x.arrives(0, 399 * DAY + 601, 1), NONE);
        x.limits(0, 5, 5);
        due(() -> x.arrives(0, 0, 5), 700);
        due(() -> x.arrives(0, 0, 6), NONE);
        x.shut(0, true);
        due(() -> x.arrives(0, 0, 5), 700);
    }

    // ---- promises 38 to 45: what could be ----

    @Says(promise = 38, words = "BANKS (bits) to which there is a CHAIN for a BANK, an amount, a MINUTE.")
    static void reachNoneAndAll() {
        AbroadRouter x = flat(16);
        due(() -> x.reach(0, 1, 0), 0);
        for (int i = 1; i < 16; i++) way(x, 0, i, 0, 0, 0);
        due(() -> x.reach(0, 1, 0), 0xFFFE);
        due(() -> x.reach(0, 100_000, LAST), 0xFFFE);
        due(() -> x.reach(0, 100_001, 0), 0);
        due(() -> x.reach(15, 1, 0), 0);
        x.shut(14, true);
        due(() -> x.reach(0, 1, 0), 0x7FFE);
        // It is no ASK.
        wrong(() -> x.cheapest(0));
    }

    @Says(promise = 39, words = "The least FEES of a CHAIN for the ASK with an END at a MINUTE (0 to LAST) at most; NONE: there is none. IllegalArgumentException: also without an ASK (so below).")
    static void cheapestByEnd() {
        AbroadRouter x = flat(2);
        wrong(() -> x.cheapest(0));
        way(x, 0, 1, 0, 100, 9);
        way(x, 0, 1, 0, 200, 4);
        x.ask(0, 1, 10, 0);
        due(() -> x.cheapest(0), NONE);
        due(() -> x.cheapest(99), NONE);
        due(() -> x.cheapest(100), 9);
        due(() -> x.cheapest(199), 9);
        due(() -> x.cheapest(200), 4);
        due(() -> x.cheapest(LAST), 4);
        x.ask(0, 1, 10, LAST);
        due(() -> x.cheapest(LAST - 1), NONE);
        due(() -> x.cheapest(LAST), 4);
        x.ask(1, 0, 10, 0);
        due(() -> x.cheapest(LAST), NONE);
    }

    @Says(promise = 40, words = "The latest MINUTE, from that of the ASK on, at which it could be asked so that there is a CHAIN with an END at a MINUTE (0 to LAST) at most; NONE.")
    static void latestFromTheAskOn() {
        AbroadRouter x = flat(3);
        wrong(() -> x.latest(0));
        way(x, 0, 1, 0, 100, 0);
        way(x, 1, 2, 1, 50, 0);
        x.ask(0, 1, 10, 30);
        due(() -> x.latest(0), NONE);
        due(() -> x.latest(99), NONE);
        due(() -> x.latest(100), 100);
        due(() -> x.latest(101), 101);
        due(() -> x.latest(DAY + 99), DAY - 1);
        due(() -> x.latest(DAY + 100), DAY + 100);
        due(() -> x.latest(LAST), LAST);
        x.ask(0, 1, 10, 100);
        due(() -> x.latest(100), 100);
        x.ask(0, 1, 10, 101);
        due(() -> x.latest(100), NONE);
        x.ask(0, 1, 10, LAST);
        due(() -> x.latest(LAST), LAST);
        due(() -> x.latest(LAST - 1), NONE);
        x.ask(0, 2, 10, 0);
        due(() -> x.latest(DAY + 49), NONE);
        due(() -> x.latest(DAY + 50), DAY - 1);
        due(() -> x.latest(LAST), 399 * DAY - 1);
        x.ask(2, 0, 10, 0);
        due(() -> x.latest(LAST), NONE);
        latestOnDayBelowZero();
        latestByHours();
        latestByRoom();
    }
    /** Up to CUT, and while both are OPEN. */
    private static void latestByHours() {
        AbroadRouter x = new AbroadRouter();
        x.place(0, 0, 0, 200);
        x.place(0, 0, 0, 1439);
        for (int i = 0; i < 3; i++) x.bank(Math.min(1, i));
        way(x, 0, 1, 0, 0, 0);
        x.ask(0, 1, 10, 200);
        due(() -> x.latest(400), 200);
        x.ask(0, 1, 10, 201);
        due(() -> x.latest(DAY - 1), NONE);
        due(() -> x.latest(DAY), DAY);
        int cut = x.account(1, 2, 500, 0, 0);
        x.fund(cut, 1_000);
        x.ask(1, 2, 10, 100);
        due(() -> x.latest(499), 499);
        due(() -> x.latest(501), 500);
        due(() -> x.latest(DAY - 1), 500);
        x.ask(1, 2, 10, 501);
        due(() -> x.latest(DAY - 1), NONE);
    }
    /** Up to LIMIT and DAILY, just enough and just not. */
    private static void latestByRoom() {
        AbroadRouter x = row(2);
        x.ask(0, 1, 10, 5);
        x.limits(0, 10, 9_999_999);
        due(() -> x.latest(100), 100);
        x.limits(0, 9, 9_999_999);
        due(() -> x.latest(LAST), NONE);
        x.limits(0, 10, 15);
        due(() -> x.pay(0), 0);
        due(() -> x.latest(DAY - 1), NONE);
        due(() -> x.latest(DAY), DAY);
        x.limits(0, 10, 20);
        due(() -> x.latest(DAY - 1), DAY - 1);
        x.limits(0, 10, 9);
        due(() -> x.latest(LAST), NONE);
        x.limits(0, 10, 9_999_999);
        due(() -> x.latest(LAST), LAST);
        x.shut(0, true);
        due(() -> x.latest(LAST), NONE);
        x.shut(0, false);
        // FREE is 99,989: with FEE the ASK takes 11 of it.
        x.draw(0, 99_978);
        due(() -> x.latest(LAST), LAST);
        x.draw(0, 1);
        due(() -> x.latest(LAST), NONE);
    }
    private static void latestOnDayBelowZero() {
        AbroadRouter x = new AbroadRouter();
        x.place(-720, 1, 0, 1439);
        x.bank(0);
        x.bank(0);
        way(x, 0, 1, 0, 0, 0);
        x.ask(0, 1, 10, 0);
        // DAY 0 there is off: only on DAY -1.
        due(() -> x.latest(0), 0);
        due(() -> x.latest(719), 719);
        due(() -> x.latest(720 + DAY - 1), 719);
        due(() -> x.latest(720 + DAY), 720 + DAY);
        x.ask(0, 1, 10, 720);
        due(() -> x.latest(720 + DAY - 1), NONE);
    }

    @Says(promise = 41, words = "The greatest amount (1 to 1,000,000), in place of that of the ASK, with which there is a CHAIN with an END at a MINUTE (0 to LAST) at most; 0: there is none.")
    static void mostLeastAndGreatest() {
        AbroadRouter x = flat(2);
        wrong(() -> x.most(0));
        x.account(0, 1, 1439, 0, 100);
        x.ask(0, 1, 10, 0);
        due(() -> x.most(LAST), 0);
        x.fund(0, 1);
        due(() -> x.most(99), 0);
        due(() -> x.most(100), 1);
        due(() -> x.most(101), 1);
        due(() -> x.most(LAST), 1);
        x.fund(0, 999_998);
        due(() -> x.most(100), 999_999);
        x.fund(0, 1);
        due(() -> x.most(100), 1_000_000);
        x.fund(0, 5_000_000);
        due(() -> x.most(100), 1_000_000);
        x.limits(0, 999_999, 9_999_999);
        due(() -> x.most(100), 999_999);
        x.limits(0, 1_000_000, 7);
        due(() -> x.most(100), 7);
        x.limits(0, 1_000_000, 0);
        due(() -> x.most(LAST), 0);
        x.limits(0, 0, 9_999_999);
        due(() -> x.most(LAST), 0);
        x.limits(0, 1_000_000, 9_999_999);
        // With FEE: 1,000 and 10 by 1,000 of it, and 5.
        x.draw(0, 5_000_000);
        x.draw(0, 1_000_000 - 1_015);
        x.terms(0, 5, 10, 0, 99_999);
        due(() -> x.most(100), 1_000);
        x.draw(0, 1);
        due(() -> x.most(100), 999);
        x.ask(0, 1, 10, 101);
        due(() -> x.most(100), 0);
    }

    @Says(promise = 42, words = "the first of: 1 it is SHUT, 2 FREE is less than the amount and its FEE, 3 the amount is above LIMIT, 4 it never LEAVES by it from the MINUTE of the ASK on, 5 it never ARRIVES; 0: none of these. IllegalArgumentException: there is no ASK.")
    static void barsInTurn() {
        AbroadRouter x = new AbroadRouter();
        x.place(0, 0, 0, 100);
        x.bank(0);
        x.bank(0);
        x.bank(0);
        x.account(0, 1, 1439, 0, 50);
        x.account(0, 1, 1439, 0, 1439);
        x.account(0, 1, 1439, 1, 0);
        wrong(() -> x.bars(0));
        x.ask(0, 1, 1_000, 399 * DAY + 101);
        for (int i = 0; i < 3; i++) {
            int account = i;
            x.terms(account, 5, 0, 0, 99_999);
            x.limits(account, 999, 9_999_999);
            x.shut(account, true);
            due(() -> x.bars(account), 1);
            x.shut(account, false);
            due(() -> x.bars(account), 2);
            x.fund(account, 1_004);
            due(() -> x.bars(account), 2);
            x.fund(account, 1);
            due(() -> x.bars(account), 3);
            x.limits(account, 1_000, 9_999_999);
            due(() -> x.bars(account), 4);
        }
        x.ask(0, 1, 1_000, 399 * DAY + 100);
        due(() -> x.bars(0), 0);
        due(() -> x.bars(1), 0);
        due(() -> x.bars(2), 5);
        x.limits(2, 1_000, 999);
        due(() -> x.bars(2), 4);
        x.limits(2, 1_000, 1_000);
        due(() -> x.bars(2), 5);
        // Whatever BANKS the ASK is for.
        x.ask(1, 2, 1_000, 0);
        due(() -> x.bars(0), 0);
    }

    @Says(promise = 43, words = "The least END of a CHAIN from the first BANK of the ASK to a BANK, for its amount, its MINUTE; NONE: there is none. IllegalArgumentException: there is no ASK.")
    static void soonestOrNone() {
        AbroadRouter x = row(7);
        wrong(() -> x.soonest(1));
        missing(() -> x.soonest(7));
        x.ask(1, 2, 10, 5);
        due(() -> x.soonest(1), NONE);
        due(() -> x.soonest(0), NONE);
        due(() -> x.soonest(2), 5);
        due(() -> x.soonest(6), 5);
        x.ask(0, 1, 10, LAST);
        due(() -> x.soonest(5), LAST);
        due(() -> x.soonest(6), NONE);
        x.ask(0, 1, 100_000, 0);
        due(() -> x.soonest(1), NONE);
        x.ask(0, 1, 99_999, 0);
        due(() -> x.soonest(1), 0);
    }

    @Says(promise = 44, words = "The fewest ACCOUNTS of a CHAIN for the ASK with an END at a MINUTE (0 to LAST) at most; NONE: there is none.")
    static void fewestByEnd() {
        AbroadRouter x = flat(3);
        wrong(() -> x.fewest(0));
        way(x, 0, 1, 0, 10, 0);
        way(x, 1, 2, 0, 20, 0);
        way(x, 0, 2, 0, 30, 9);
        x.ask(0, 2, 10, 0);
        due(() -> x.fewest(0), NONE);
        due(() -> x.fewest(19), NONE);
        due(() -> x.fewest(20), 2);
        due(() -> x.fewest(29), 2);
        // One that is beaten counts.
        due(() -> x.fewest(30), 1);
        due(() -> x.ask(0, 2, 10, 0), 1);
        due(() -> x.fewest(LAST), 1);
        x.ask(2, 0, 10, 0);
        due(() -> x.fewest(LAST), NONE);
    }

    @Says(promise = 45, words = "By how many MINUTES the least END of ROUTES of the ASK were later, were an ACCOUNT SHUT; NONE: there are none then. IllegalArgumentException: there is no ASK.")
    static void delayOrNone() {
        AbroadRouter x = flat(2);
        way(x, 0, 1, 0, 10, 5);
        way(x, 0, 1, 0, 10, 5);
        way(x, 0, 1, 0, 11, 9);
        wrong(() -> x.delay(0));
        x.ask(0, 1, 10, 0);
        due(() -> x.delay(0), 0);
        x.shut(1, true);
        due(() -> x.delay(0), 1);
        due(() -> x.delay(1), 0);
        due(() -> x.delay(2), 0);
        x.shut(2, true);
        due(() -> x.delay(0), NONE);
        // It is not SHUT by that.
        due(() -> x.accountOf(0, 5), 0);
        due(() -> x.route(0, 0), 10);
        x.shut(0, true);
        due(() -> x.delay(0), NONE);
        due(() -> x.delay(2), NONE);
    }

    // ---- promises 46 to 55 ----

    @Says(promise = 46, words = "1 how many ACCOUNTS go from it, 2 how many to it, 3 BALANCES together of those from it, 4 their HELD together")
    static void bankWithoutAndWithAll() {
        AbroadRouter x = flat(3);
        for (int what = 1; what <= 4; what++) { int w = what; due(() -> x.bankOf(0, w), 0); }
        for (int i = 0; i < 48; i++) way(x, 0, 1, 0, 0, 2);
        due(() -> x.bankOf(0, 1), 48);
        due(() -> x.bankOf(0, 2), 0);
        due(() -> x.bankOf(1, 2), 48);
        due(() -> x.bankOf(1, 1), 0);
        due(() -> x.bankOf(0, 3), 4_800_000);
        due(() -> x.bankOf(1, 3), 0);
        booked(x, 0, 1, 98, 0);
        booked(x, 0, 1, 98, 0);
        due(() -> x.bankOf(0, 4), 200);
        due(() -> x.bankOf(1, 4), 0);
        due(() -> x.bankOf(2, 1) + x.bankOf(2, 2) + x.bankOf(2, 3) + x.bankOf(2, 4), 0);
        x.go(1);
        due(() -> x.bankOf(0, 4), 0);
        due(() -> x.bankOf(0, 3), 4_799_800);
    }

    @Says(promise = 46, words = "3 BALANCES together of those from it")
    static void balancesTogetherAreMoreThanAnInt() {
        AbroadRouter x = flat(2);
        for (int i = 0; i < 4; i++) {
            x.account(0, 1, 0, 0, 0);
            for (int k = 0; k < 100; k++) x.fund(i, 9_999_999);
        }
        due(() -> x.bankOf(0, 3), 3_999_999_600L);
    }

    @Says(promise = 47, words = "ACCOUNTS (bits) by which two PAYMENTS (one and the same, too) both have HOPS.")
    static void sharedNoneAndAll() {
        AbroadRouter x = row(6);
        way(x, 0, 1, 0, 0, 0);
        booked(x, 0, 5, 10, 0);
        x.shut(5, true);
        booked(x, 0, 1, 10, 0);
        booked(x, 1, 5, 10, 0);
        due(() -> x.shared(0, 0), 0b111110);
        due(() -> x.shared(1, 1), 1);
        due(() -> x.shared(2, 2), 0b11110);
        due(() -> x.shared(0, 1), 0);
        due(() -> x.shared(0, 2), 0b11110);
        due(() -> x.shared(2, 0), 0b11110);
        due(() -> x.shared(1, 2), 0);
        x.go(10);
        due(() -> x.shared(0, 2), 0b11110);
    }

    @Says(promise = 48, words = "What is HELD for a PAYMENT, on all ACCOUNTS together.")
    static void tiedUpNoneAndAll() {
        AbroadRouter x = row(6);
        for (int i = 0; i < 5; i++) {
            x.fund(i, 9_999_999);
            x.terms(i, 0, 0, 99_999, 99_999);
        }
        booked(x, 0, 5, 1_000_000, 5);
        due(() -> x.tiedUp(0), 5 * 1_099_999);
        booked(x, 0, 5, 1, 7);
        x.refuse(1);
        due(() -> x.tiedUp(1), 0);
        x.go(5);
        due(() -> x.tiedUp(0), 0);
        AbroadRouter y = flat(3);
        way(y, 0, 1, 0, 100, 1);
        way(y, 1, 2, 0, 0, 2);
        booked(y, 0, 2, 10, 0);
        due(() -> y.tiedUp(0), 23);
        y.go(99);
        due(() -> y.tiedUp(0), 12);
        y.refuse(0);
        due(() -> y.tiedUp(0), 0);
    }

    @Says(promise = 49, words = "from a DAY (0 to 399) to another one (not ahead of that, 399 at most), both counted")
    static void daysBothCounted() {
        AbroadRouter x = new AbroadRouter();
        x.place(0, 64, 0, 1);
        due(() -> x.days(0, 0, 0), 1);
        due(() -> x.days(0, 6, 6), 0);
        due(() -> x.days(0, 5, 7), 2);
        due(() -> x.days(0, 399, 399), 1);
        due(() -> x.days(0, 0, 399), 343);
        wrong(() -> x.days(0, 1, 0));
        wrong(() -> x.days(0, 399, 398));
        wrong(() -> x.days(0, 399, 400));
        x.holiday(0, 399);
        due(() -> x.days(0, 398, 399), 0);
        due(() -> x.days(0, 397, 399), 1);
    }

    @Says(promise = 50, words = "How many HOPS LEAVE, go BACK, and PAYMENTS are PAID up to a MINUTE (NOW to LAST), as they are laid now.")
    static void untilNowAndLast() {
        AbroadRouter x = flat(3);
        way(x, 0, 1, 0, 100, 0);
        way(x, 1, 2, 0, 200, 0);
        due(() -> x.until(0), 0);
        booked(x, 0, 2, 10, 0);
        booked(x, 0, 2, 10, 0);
        booked(x, 0, 2, 10, 399 * DAY);
        due(() -> x.until(0), 2);
        due(() -> x.until(99), 2);
        due(() -> x.until(100), 4);
        due(() -> x.until(199), 4);
        due(() -> x.until(200), 6);
        due(() -> x.until(LAST), 9);
        x.go(100);
        wrong(() -> x.until(99));
        due(() -> x.until(100), 0);
        x.refuse(0);
        // Two go BACK, one is PAID.
        due(() -> x.until(200), 3);
        due(() -> x.until(LAST), 6);
        due(() -> x.go(100), 3);
        due(() -> x.until(200), 0);
    }

    @Says(promise = 51, words = "Amounts together of BOOKED PAYMENTS whose last BANK one is, with END on a DAY (0 to 399) of its PLACE.")
    static void dueOnFirstAndLastDay() {
        AbroadRouter x = new AbroadRouter();
        x.place(0, 0, 0, 1439);
        x.place(-720, 0, 0, 1439);
        x.place(840, 0, 0, 1439);
        for (int i = 0; i < 3; i++) x.bank(i);
        way(x, 0, 1, 0, 0, 0);
        way(x, 0, 2, 0, 0, 0);
        due(() -> x.due(1, 0), 0);
        // DAY 0, DAY -1, DAY 399 there; and DAY 400.
        booked(x, 0, 1, 2, 720);
        booked(x, 0, 1, 1, 719);
        booked(x, 0, 1, 4, LAST);
        booked(x, 0, 2, 8, LAST - 840);
        booked(x, 0, 2, 16, LAST - 839);
        due(() -> x.due(1, 0), 2);
        due(() -> x.due(1, 1), 0);
        due(() -> x.due(1, 399), 4);
        due(() -> x.due(2, 399), 8);
        due(() -> x.due(0, 0), 0);
        booked(x, 0, 1, 32, 720);
        due(() -> x.due(1, 0), 34);
        x.refuse(0);
        due(() -> x.due(1, 0), 32);
        x.go(719);
        due(() -> x.due(1, 0), 32);
        x.go(1);
        due(() -> x.due(1, 0), 0);
    }

    @Says(promise = 52, words = "By how much BALANCE of an ACCOUNT would have to be more, at least, so that there were a CHAIN for the ASK with an END at a MINUTE (0 to LAST) at most; NONE: whatever it is, there is none.")
    static void needsJustEnough() {
        AbroadRouter x = flat(3);
        x.account(0, 1, 1439, 0, 100);
        x.account(0, 1, 1439, 0, 200);
        wrong(() -> x.needs(0, 0));
        x.terms(0, 5, 0, 0, 99_999);
        x.ask(0, 1, 1_000, 0);
        due(() -> x.needs(0, 99), NONE);
        due(() -> x.needs(0, 100), 1_005);
        due(() -> x.needs(1, 199), NONE);
        due(() -> x.needs(1, 200), 1_000);
        x.fund(0, 1_004);
        due(() -> x.needs(0, 100), 1);
        x.fund(0, 1);
        due(() -> x.needs(0, 100), 0);
        due(() -> x.needs(1, 100), 0);
        due(() -> x.needs(0, 101), 0);
        due(() -> x.needs(1, LAST), 0);
        due(() -> x.needs(0, 99), NONE);
        due(() -> x.needs(1, 99), NONE);
        // What is HELD does not help.
        due(() -> x.pay(0), 0);
        due(() -> x.needs(0, 100), 1_005);
        x.fund(0, 1_005);
        due(() -> x.needs(0, 100), 0);
        x.draw(0, 1);
        due(() -> x.needs(0, 100), 1);
        // SHUT, LIMIT, room: no BALANCE helps.
        x.shut(0, true);
        due(() -> x.needs(0, 100), NONE);
        x.shut(0, false);
        x.limits(0, 999, 9_999_999);
        due(() -> x.needs(0, 100), NONE);
        x.limits(0, 1_000, 1_999);
        due(() -> x.needs(0, 100), NONE);
        x.limits(0, 1_000, 2_000);
        due(() -> x.needs(0, 100), 1);
        x.ask(1, 0, 1_000, 0);
        due(() -> x.needs(0, LAST), NONE);
    }

    @Says(promise = 53, words = "How many ROUTES the ASK had, were an ACCOUNT SHUT. IllegalArgumentException: there is no ASK.")
    static void withoutOne() {
        AbroadRouter x = flat(2);
        way(x, 0, 1, 0, 10, 5);
        way(x, 0, 1, 0, 20, 5);
        way(x, 0, 1, 0, 30, 1);
        wrong(() -> x.without(0));
        due(() -> x.ask(0, 1, 10, 0), 2);
        due(() -> x.without(0), 2);
        due(() -> x.without(1), 2);
        due(() -> x.without(2), 1);
        // ROUTES are as they were.
        due(() -> x.route(0, 0), 10);
        due(() -> x.route(1, 0), 30);
        missing(() -> x.route(2, 0));
        x.shut(1, true);
        x.shut(2, true);
        due(() -> x.without(0), 0);
        due(() -> x.without(1), 1);
        due(() -> x.pay(0), 0);
        due(() -> x.leg(0, 0, 0), 0);
        withoutOneBehindReroute();
    }
    /** The BANKS that a PAYMENT does not go to again are open to the ASK. */
    private static void withoutOneBehindReroute() {
        AbroadRouter x = flat(3);
        way(x, 0, 1, 0, 100, 0);
        way(x, 1, 2, 1, 0, 0);
        booked(x, 0, 2, 10, 0);
        x.go(1);
        way(x, 0, 2, 5, 0, 9);
        due(() -> x.ask(0, 2, 10, 5), 1);
        due(() -> x.reroute(0), 0);
        due(() -> x.without(2), 1);
        due(() -> x.route(0, 2), 2);
    }

    @Says(promise = 54, words = "ACCOUNTS (bits) without each of which, all else as it is, there would be no ROUTE for the ASK; 0, if there is none anyway.")
    static void vitalNoneAndAll() {
        AbroadRouter x = row(6);
        wrong(() -> x.vital());
        x.ask(0, 5, 10, 0);
        due(() -> x.vital(), 0b11111);
        way(x, 0, 1, 5, 0, 900);
        due(() -> x.vital(), 0b11110);
        way(x, 1, 3, 0, 0, 0);
        due(() -> x.vital(), 0b11000);
        x.draw(3, 100_000);
        due(() -> x.vital(), 0);
        x.ask(5, 0, 10, 0);
        due(() -> x.vital(), 0);
        x.ask(0, 1, 10, LAST);
        // By ACCOUNT 5 it never ARRIVES then.
        due(() -> x.vital(), 1);
    }

    @Says(promise = 55, words = "How many calls were refused: 0 NoSuchElementException, 1 IllegalArgumentException; NONE for others.")
    static void statusCounts() {
        AbroadRouter x = new AbroadRouter();
        due(() -> x.status(0), 0);
        due(() -> x.status(1), 0);
        due(() -> x.status(-1), NONE);
        due(() -> x.status(2), NONE);
        due(() -> x.status(LEAST_INT), NONE);
        due(() -> x.status(MOST_INT), NONE);
        for (int i = 1; i <= 20; i++) {
            int n = i;
            missing(() -> x.bank(0));
            due(() -> x.status(0), n);
            wrong(() -> x.told(10));
            due(() -> x.status(1), n);
        }
        // What answers NONE, -1, -2, 0 or false is not refused.
        AbroadRouter y = row(2);
        y.draw(0, 9_999_999);
        y.ask(1, 0, 1, 0);
        y.cheapest(0);
        y.holiday(0, 0);
        booked(y, 0, 1, 1, 0);
        y.go(1);
        y.pay(0);
        y.refuse(0);
        y.reroute(0);
        goTo(y, LAST);
        y.go(1);
        y.status(7);
        due(() -> y.status(0), 0);
        due(() -> y.status(1), 0);
    }
}
