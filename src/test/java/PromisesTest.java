/** Each promise by hand: ordinary inputs, the edges that the document names, wrong inputs. */
public final class PromisesTest extends Checks {
    /** Three PLACES of 5 days a week; 0 to 1 to 2, 0 to 2 and 0 to 3 (without money). */
    private static AbroadRouter world() {
        AbroadRouter x = new AbroadRouter();
        x.place(0, 96, 480, 1080);
        x.place(120, 96, 540, 1020);
        x.place(-300, 96, 480, 960);
        x.bank(0);
        x.bank(1);
        x.bank(2);
        x.bank(1);
        x.account(0, 1, 900, 0, 1000);
        x.account(1, 2, 900, 1, 600);
        x.account(0, 2, 700, 2, 500);
        x.account(0, 3, 1000, 0, 0);
        x.terms(0, 10, 2, 0, 99_999);
        x.terms(1, 5, 0, 0, 99_999);
        for (int i = 0; i < 3; i++) x.fund(i, 50_000);
        return x;
    }
    public static void main(String[] args) throws ReflectiveOperationException {
        for (int promise = 1; promise <= 55; promise++) {
            about = "promise " + promise;
            PromisesTest.class.getDeclaredMethod("p" + promise).invoke(null);
        }
        System.out.println(checks + " checks of 55 promises, " + wrongs + " not as due");
        if (wrongs != 0) System.exit(1);
    }

    // ---- promises ----

    static void p1() {
        AbroadRouter x = new AbroadRouter();
        for (int what = 0; what <= 8; what++) { int w = what; due(() -> x.told(w), 0); }
        due(() -> x.told(9), NONE);
        due(() -> AbroadRouter.NONE, -1);
        missing(() -> x.placeOf(0, 0));
        missing(() -> x.accountOf(0, 0));
        missing(() -> x.payment(0, 0));
        missing(() -> x.bankOf(0, 0));
        missing(() -> x.route(0, 0));
        wrong(() -> x.cheapest(0));
    }

    static void p2() {
        AbroadRouter x = new AbroadRouter();
        wrong(() -> x.place(-721, 0, 0, 1));
        wrong(() -> x.place(841, 0, 0, 1));
        wrong(() -> x.place(LEAST_INT, 0, 0, 1));
        wrong(() -> x.place(0, -1, 0, 1));
        wrong(() -> x.place(0, 127, 0, 1));
        wrong(() -> x.place(0, 0, -1, 1));
        wrong(() -> x.place(0, 0, 1439, 1440));
        wrong(() -> x.place(0, 0, 1438, 1440));
        wrong(() -> x.place(0, 0, 700, 700));
        wrong(() -> x.place(0, 0, 700, 699));
        wrong(() -> x.place(0, 0, MOST_INT, LEAST_INT));
        due(() -> x.told(1), 0);
        due(() -> x.place(-720, 126, 1438, 1439), 0);
        due(() -> x.place(840, 0, 0, 1), 1);
        for (int i = 2; i < 6; i++) { int n = i; due(() -> x.place(0, 0, 0, 1439), n); }
        due(() -> x.place(0, 0, 0, 1439), NONE);
        wrong(() -> x.place(0, 0, 5, 5));
        due(() -> x.told(1), 6);
        due(() -> x.status(1), 12);
    }

    static void p3() {
        AbroadRouter x = new AbroadRouter();
        x.place(0, 96, 0, 1439);
        x.place(840, 0, 0, 1439);
        x.place(-720, 0, 0, 1439);
        missing(() -> x.holiday(3, 0));
        missing(() -> x.holiday(-1, 400));
        wrong(() -> x.holiday(0, -1));
        wrong(() -> x.holiday(0, 400));
        due(() -> x.holiday(0, 0), 0);
        due(() -> x.holiday(0, 5), 0);
        due(() -> x.holiday(0, 6), 0);
        due(() -> x.holiday(0, 7), 1);
        due(() -> x.holiday(0, 7), 0);
        due(() -> x.holiday(0, 399), 0 + (399 % 7 == 5 || 399 % 7 == 6 ? 0 : 1));
        due(() -> x.placeOf(0, 4), 2);
        // Its DAY NOW is by its own clock: below 0, and already 1.
        due(() -> x.holiday(2, 0), 1);
        x.go(600);
        due(() -> x.holiday(1, 1), 0);
        due(() -> x.holiday(1, 2), 1);
        for (int i = 3; i <= 41; i++) { int d = i; due(() -> x.holiday(1, d), 1); }
        due(() -> x.placeOf(1, 4), 40);
        due(() -> x.holiday(1, 42), -1);
        due(() -> x.holiday(1, 41), 0);
        due(() -> x.holiday(1, 1), 0);
        due(() -> x.after(1, 1, 1), 42);
        p3laidAnew();
        p3refused();
        p3returning();
        p3daily();
    }
    /** HOPS that have not LEFT go by the days that are left; those that have stay. */
    private static void p3laidAnew() {
        AbroadRouter x = new AbroadRouter();
        x.place(0, 0, 0, 1439);
        x.place(0, 0, 480, 1080);
        x.bank(0);
        x.bank(1);
        x.bank(1);
        x.account(0, 1, 900, 0, 1000);
        x.account(1, 2, 1080, 1, 600);
        x.fund(0, 1000);
        x.fund(1, 1000);
        x.ask(0, 2, 100, 0);
        due(() -> x.pay(0), 0);
        due(() -> x.payment(0, 6), 2040);
        due(() -> x.holiday(1, 1), 1);
        due(() -> x.leg(0, 0, 1), 480);
        due(() -> x.leg(0, 1, 1), 1000);
        due(() -> x.leg(0, 1, 2), 3480);
        due(() -> x.late(0), 1440);
        x.go(900);
        due(() -> x.payment(0, 4), 1);
        x.shut(1, true);
        x.terms(1, 50, 0, 0, 99_999);
        due(() -> x.holiday(1, 2), 1);
        due(() -> x.leg(0, 0, 1), 480);
        due(() -> x.leg(0, 0, 2), 1000);
        due(() -> x.leg(0, 1, 1), 1000);
        due(() -> x.leg(0, 1, 2), 4920);
        due(() -> x.leg(0, 1, 6), 0);
        x.go(200);
        due(() -> x.payment(0, 4), 2);
        // What has LEFT ARRIVES as it was to.
        due(() -> x.holiday(1, 3), 1);
        due(() -> x.leg(0, 1, 2), 4920);
        // From NOW on, and not ahead of the MINUTE of its ASK.
        x.shut(1, false);
        x.ask(1, 2, 100, 1440);
        due(() -> x.pay(0), 1);
        due(() -> x.leg(1, 0, 1), 4 * 1440 + 480);
        due(() -> x.used(1, 4), 100);
        due(() -> x.holiday(1, 4), 1);
        due(() -> x.leg(1, 0, 1), 5 * 1440 + 480);
        due(() -> x.used(1, 4), 0);
        due(() -> x.used(1, 5), 100);
        due(() -> x.accountOf(1, 3), 150);
    }
    /** By which it never ARRIVES: it is REFUSED, with what was laid by then. */
    private static void p3refused() {
        AbroadRouter x = flat(3);
        x.place(0, 0, 0, 1439);
        x.bank(1);
        way(x, 0, 1, 0, 0, 1);
        way(x, 1, 3, 1, 600, 2);
        x.ask(0, 3, 100, 398 * 1440);
        due(() -> x.pay(0), 0);
        goTo(x, 397 * 1440);
        x.ask(0, 3, 200, 397 * 1440 + 10);
        due(() -> x.pay(0), 1);
        x.go(10);
        due(() -> x.payment(1, 4), 2);
        x.ask(0, 3, 300, 398 * 1440);
        due(() -> x.pay(0), 2);
        due(() -> x.payment(0, 6), 399 * 1440 + 600);
        due(() -> x.holiday(1, 399), 1);
        due(() -> x.payment(0, 0), 3);
        due(() -> x.payment(0, 6), 399 * 1440 + 600);
        due(() -> x.leg(0, 0, 4), NONE);
        due(() -> x.payment(1, 0), 0);
        due(() -> x.payment(2, 0), 3);
        due(() -> x.accountOf(0, 3), 0);
        due(() -> x.accountOf(1, 3), 0);
        due(() -> x.used(0, 398), 0);
        due(() -> x.used(1, 398), 0);
        due(() -> x.told(5), 1);
        due(() -> x.told(8), 2);
    }
    /** Of what goes BACK, MINUTES are found anew. */
    private static void p3returning() {
        AbroadRouter x = new AbroadRouter();
        x.place(0, 0, 0, 1439);
        x.place(0, 0, 0, 1439);
        for (int i = 0; i < 3; i++) x.bank(i == 1 ? 1 : 0);
        way(x, 0, 1, 0, 0, 3);
        way(x, 1, 2, 2, 100, 4);
        x.ask(0, 2, 100, 0);
        x.pay(0);
        x.go(1);
        due(() -> x.payment(0, 4), 2);
        due(() -> x.refuse(0), 1);
        due(() -> x.leg(0, 1, 4), 2980);
        due(() -> x.leg(0, 0, 4), 2980);
        due(() -> x.holiday(1, 2), 1);
        due(() -> x.leg(0, 1, 4), 3 * 1440);
        due(() -> x.leg(0, 0, 4), 3 * 1440);
        due(() -> x.payment(0, 6), 2980);
        x.go(3 * 1440);
        due(() -> x.payment(0, 0), 3);
        AbroadRouter y = new AbroadRouter();
        y.place(0, 0, 0, 700);
        y.place(0, 0, 600, 1439);
        y.bank(0);
        y.bank(1);
        y.bank(1);
        way(y, 0, 1, 0, 0, 1);
        way(y, 1, 2, 0, 1400, 2);
        booked(y, 0, 2, 100, 0);
        y.go(600);
        y.refuse(0);
        y.go(810);
        due(() -> y.leg(0, 1, 5), 1);
        due(() -> y.leg(0, 0, 4), 2040);
        due(() -> y.holiday(1, 1), 1);
        due(() -> y.leg(0, 1, 4), 1400);
        due(() -> y.leg(0, 0, 4), 2 * 1440 + 600);
    }
    /** The room of a DAY: that of others counts, its own does not. */
    private static void p3daily() {
        AbroadRouter x = flat(2);
        x.place(0, 0, 0, 1439);
        x.bank(1);
        int a = way(x, 0, 1, 1, 0, 0);
        x.limits(a, 1_000_000, 500);
        x.ask(0, 1, 300, 0);
        due(() -> x.pay(0), 0);
        due(() -> x.pay(0), 1);
        due(() -> x.leg(0, 0, 1), 0);
        due(() -> x.leg(1, 0, 1), 1440);
        due(() -> x.used(a, 0), 300);
        due(() -> x.used(a, 1), 300);
        // Any HOLIDAY told lays all anew: the second one takes the room that the first one left.
        due(() -> x.refuse(0), 1);
        due(() -> x.leg(1, 0, 1), 1440);
        due(() -> x.holiday(1, 50), 1);
        due(() -> x.leg(1, 0, 1), 0);
        due(() -> x.late(1), -1440);
        x.limits(a, 200, 500);
        due(() -> x.holiday(1, 51), 1);
        due(() -> x.payment(1, 0), 3);
    }

    static void p4() {
        AbroadRouter x = new AbroadRouter();
        missing(() -> x.bank(0));
        x.place(0, 0, 0, 1439);
        missing(() -> x.bank(1));
        missing(() -> x.bank(-1));
        for (int i = 0; i < 16; i++) { int n = i; due(() -> x.bank(0), n); }
        due(() -> x.bank(0), NONE);
        missing(() -> x.bank(1));
        due(() -> x.told(2), 16);
    }

    static void p5() {
        AbroadRouter x = flat(2);
        missing(() -> x.account(2, 0, 0, 0, 0));
        missing(() -> x.account(0, 2, -1, 0, 0));
        missing(() -> x.account(-1, 0, 0, 0, 0));
        wrong(() -> x.account(0, 0, 0, 0, 0));
        wrong(() -> x.account(0, 1, -1, 0, 0));
        wrong(() -> x.account(0, 1, 1440, 0, 0));
        wrong(() -> x.account(0, 1, 0, -1, 0));
        wrong(() -> x.account(0, 1, 0, 6, 0));
        wrong(() -> x.account(0, 1, 0, 0, -1));
        wrong(() -> x.account(0, 1, 0, 0, 1440));
        due(() -> x.account(0, 1, 1439, 5, 1439), 0);
        due(() -> x.account(1, 0, 0, 0, 0), 1);
        due(() -> x.accountOf(0, 9), 1_000_000);
        due(() -> x.accountOf(0, 10), 9_999_999);
        due(() -> x.accountOf(0, 2), 0);
        due(() -> x.fee(0, 1_000_000), 0);
        for (int i = 2; i < 48; i++) { int n = i; due(() -> x.account(0, 1, 0, 0, 0), n); }
        due(() -> x.account(0, 1, 0, 0, 0), NONE);
        wrong(() -> x.account(1, 1, 0, 0, 0));
        due(() -> x.told(3), 48);
    }

    static void p6() {
        AbroadRouter x = flat(2);
        int a = way(x, 0, 1, 0, 0, 7);
        missing(() -> x.terms(1, 0, 0, 0, -1));
        wrong(() -> x.terms(a, -1, 0, 0, 0));
        wrong(() -> x.terms(a, 10_000, 0, 0, 0));
        wrong(() -> x.terms(a, 0, -1, 0, 0));
        wrong(() -> x.terms(a, 0, 101, 0, 0));
        wrong(() -> x.terms(a, 0, 0, -1, 0));
        wrong(() -> x.terms(a, 0, 0, 100_000, 100_000));
        wrong(() -> x.terms(a, 0, 0, 3, 2));
        wrong(() -> x.terms(a, 0, 0, 0, 100_000));
        due(() -> x.fee(a, 1), 7);
        booked(x, 0, 1, 500, 0);
        due(() -> x.terms(a, 9_999, 100, 0, 99_999), 10_099);
        due(() -> x.terms(a, 1, 2, 50, 60), 50);
        due(() -> x.terms(a, 1, 99, 50, 60), 60);
        due(() -> x.terms(a, 0, 0, 99_999, 99_999), 99_999);
        due(() -> x.leg(0, 0, 6), 7);
        due(() -> x.accountOf(a, 3), 507);
    }

    static void p7() {
        AbroadRouter x = flat(2);
        int a = way(x, 0, 1, 1, 0, 0);
        missing(() -> x.limits(1, -1, 0));
        wrong(() -> x.limits(a, -1, 0));
        wrong(() -> x.limits(a, 1_000_001, 0));
        wrong(() -> x.limits(a, 0, -1));
        wrong(() -> x.limits(a, 0, 10_000_000));
        due(() -> x.limits(a, 1_000_000, 9_999_999), 0);
        booked(x, 0, 1, 500, 0);
        booked(x, 0, 1, 500, 10);
        due(() -> x.limits(a, 0, 0), 2);
        due(() -> x.payment(0, 0), 0);
        due(() -> x.leg(1, 0, 1), 10);
        due(() -> x.leaves(a, 0, 1), NONE);
        x.go(9);
        due(() -> x.limits(a, 499, 9_999_999), 1);
        due(() -> x.leaves(a, 0, 499), 0);
        due(() -> x.leaves(a, 0, 500), NONE);
        x.go(1);
        due(() -> x.limits(a, 499, 1_000), 0);
        due(() -> x.leaves(a, 0, 1), 1440);
    }

    static void p8() {
        AbroadRouter x = flat(2);
        int a = x.account(0, 1, 0, 0, 0);
        missing(() -> x.fund(1, 0));
        wrong(() -> x.fund(a, 0));
        wrong(() -> x.fund(a, 10_000_000));
        wrong(() -> x.fund(a, LEAST_INT));
        due(() -> x.fund(a, 1), 1);
        for (int i = 1; i <= 99; i++) { int n = i; due(() -> x.fund(a, 9_999_999), 1 + n * 9_999_999L); }
        for (int i = 0; i < 1; i++) due(() -> x.fund(a, 9_999_999), 999_999_901);
        due(() -> x.fund(a, 99), NONE);
        due(() -> x.accountOf(a, 2), 999_999_901);
        due(() -> x.line(a, 0, 2), 9_999_999);
        due(() -> x.fund(a, 98), 999_999_999);
        due(() -> x.fund(a, 1), NONE);
    }

    static void p9() {
        AbroadRouter x = flat(2);
        int a = way(x, 0, 1, 0, 0, 5);
        missing(() -> x.draw(1, 0));
        wrong(() -> x.draw(a, 0));
        wrong(() -> x.draw(a, 10_000_000));
        booked(x, 0, 1, 400, 100);
        due(() -> x.draw(a, 99_596), NONE);
        due(() -> x.accountOf(a, 2), 100_000);
        due(() -> x.draw(a, 99_595), 405);
        due(() -> x.draw(a, 1), NONE);
        due(() -> x.line(a, 0, 1), 3);
    }

    static void p10() {
        AbroadRouter x = flat(2);
        int a = way(x, 0, 1, 0, 0, 0);
        missing(() -> bit(x.shut(1, true)));
        due(() -> bit(x.shut(a, false)), 0);
        due(() -> bit(x.shut(a, true)), 0);
        due(() -> x.ask(0, 1, 1, 0), 0);
        due(() -> x.leaves(a, 0, 1), 0);
        due(() -> bit(x.shut(a, true)), 1);
        due(() -> bit(x.shut(a, false)), 1);
        due(() -> x.route(0, 0), 0);
    }

    static void p11() {
        AbroadRouter x = flat(4);
        way(x, 0, 1, 0, 0, 1);
        way(x, 1, 2, 0, 0, 2);
        way(x, 2, 3, 0, 600, 4);
        wrong(() -> x.go(0));
        wrong(() -> x.go(-1));
        wrong(() -> x.go(20_161));
        x.ask(0, 3, 100, 10);
        due(() -> x.pay(0), 0);
        due(() -> x.pay(0), 1);
        due(() -> x.go(9), 0);
        due(() -> x.go(1), 6);
        due(() -> x.accountOf(0, 2), 100_000 - 202);
        due(() -> x.accountOf(2, 3), 0);
        due(() -> x.go(589), 0);
        due(() -> x.go(1), 2);
        due(() -> x.payment(0, 0), 1);
        // LEFT and PAID in one MINUTE; what is due NOW happens with the next go.
        x.ask(0, 1, 100, 600);
        due(() -> x.pay(0), 2);
        due(() -> x.payment(2, 4), 0);
        due(() -> x.go(1), 2);
        due(() -> x.line(0, 0, 0), 600);
        // One MINUTE by numbers of PAYMENTS.
        due(() -> x.line(0, 1, 4), 1);
        due(() -> x.line(0, 2, 4), 0);
        booked(x, 0, 3, 100, 1440);
        due(() -> x.go(839), 3);
        x.refuse(3);
        due(() -> x.go(20_160), 3);
        due(() -> x.payment(3, 0), 3);
        goTo(x, LAST);
        due(() -> x.go(1), NONE);
        due(() -> x.told(0), LAST);
        wrong(() -> x.go(0));
    }

    static void p12() {
        AbroadRouter x = world();
        missing(() -> x.ask(4, 0, 1, 0));
        missing(() -> x.ask(0, 4, 0, 0));
        missing(() -> x.ask(-1, 0, 1, 0));
        wrong(() -> x.ask(0, 0, 1000, 0));
        wrong(() -> x.ask(0, 2, 0, 0));
        wrong(() -> x.ask(0, 2, 1_000_001, 0));
        wrong(() -> x.ask(0, 2, 1, -1));
        wrong(() -> x.ask(0, 2, 1, LAST + 1));
        missing(() -> x.route(0, 0));
        due(() -> x.ask(0, 2, 1000, 0), 2);
        wrong(() -> x.ask(0, 0, 1000, 0));
        due(() -> x.route(0, 0), 2340);
        due(() -> x.ask(2, 0, 1000, 0), 0);
        due(() -> x.ask(0, 2, 50_001, 0), 0);
        due(() -> x.ask(0, 2, 50_000, 0), 1);
        due(() -> x.ask(0, 2, 1, LAST), 0);
        p12hops();
        p12same();
        p12many();
    }
    /** 5 ACCOUNTS at most, no BANK twice. */
    private static void p12hops() {
        AbroadRouter x = flat(8);
        for (int i = 0; i < 6; i++) way(x, i, i + 1, 0, 0, 1);
        due(() -> x.ask(0, 5, 10, 0), 1);
        due(() -> x.route(0, 2), 5);
        due(() -> x.ask(0, 6, 10, 0), 0);
        due(() -> x.reach(0, 10, 0), 62);
        way(x, 1, 0, 0, 0, 0);
        due(() -> x.reach(0, 10, 0), 62);
        due(() -> x.soonest(0), NONE);
    }
    /** Of alike pairs: fewest ACCOUNTS, then the first by their numbers, even by one that comes later to a BANK between. */
    private static void p12same() {
        AbroadRouter x = flat(4);
        int late = way(x, 0, 1, 0, 500, 5);
        int soon = way(x, 0, 1, 0, 100, 5);
        int last = way(x, 1, 2, 1, 0, 5);
        due(() -> x.ask(0, 2, 10, 0), 1);
        due(() -> x.route(0, 0), 1440);
        due(() -> x.route(0, 1), 10);
        due(() -> x.step(0, 0, 0), late);
        due(() -> x.step(0, 1, 0), last);
        due(() -> bit(x.shut(late, true)), 0);
        due(() -> x.step(0, 0, 0), soon);
        x.shut(late, false);
        int direct = way(x, 0, 2, 1, 0, 10);
        due(() -> x.ask(0, 2, 10, 0), 1);
        due(() -> x.step(0, 0, 0), direct);
        // As soon, and cheaper: it beats them. Later, and dearer: it is beaten.
        int cheap = way(x, 0, 2, 1, 0, 9);
        way(x, 0, 2, 1, 1, 9);
        due(() -> x.ask(0, 2, 10, 0), 1);
        due(() -> x.step(0, 0, 0), cheap);
        AbroadRouter y = flat(2);
        way(y, 0, 1, 0, 200, 1);
        way(y, 0, 1, 0, 100, 1);
        due(() -> y.ask(0, 1, 10, 0), 1);
        due(() -> y.route(0, 0), 100);
        way(x, 0, 2, 1, 1, 8);
        due(() -> x.ask(0, 2, 10, 0), 2);
        due(() -> x.route(1, 0), 1441);
        due(() -> x.route(1, 1), 8);
    }

    /** 48 ACCOUNTS, each later and cheaper than the one ahead of it: many ROUTES. */
    private static void p12many() {
        AbroadRouter x = flat(3);
        for (int i = 0; i < 24; i++) way(x, 0, 1, 0, 10 + i * 50, 1_000 - i * 30);
        for (int i = 0; i < 24; i++) way(x, 1, 2, 0, 10 + i * 50, 1_000 - i * 30);
        // By the ACCOUNTS i and k behind 24 one is there at the later one of both.
        due(() -> x.ask(0, 2, 10, 0), 24);
        for (int i = 0; i < 24; i++) {
            int k = i;
            due(() -> x.route(k, 0), 10 + k * 50);
            due(() -> x.route(k, 1), 2 * (1_000 - k * 30));
            due(() -> x.step(k, 0, 0), k);
            due(() -> x.step(k, 1, 0), 24 + k);
        }
        missing(() -> x.route(24, 0));
    }

    static void p13() {
        AbroadRouter x = world();
        missing(() -> x.route(0, 3));
        x.ask(0, 2, 1000, 0);
        due(() -> x.route(0, 0), 2340);
        due(() -> x.route(0, 1), 17);
        due(() -> x.route(0, 2), 2);
        due(() -> x.route(1, 0), 3680);
        due(() -> x.route(1, 1), 0);
        due(() -> x.route(1, 2), 1);
        missing(() -> x.route(2, 0));
        missing(() -> x.route(-1, 9));
        missing(() -> x.route(MOST_INT, 0));
        wrong(() -> x.route(0, 3));
        wrong(() -> x.route(0, -1));
        // By all as it is now.
        x.shut(1, true);
        due(() -> x.route(0, 0), 3680);
        x.without(2);
        due(() -> x.route(0, 0), 3680);
        missing(() -> x.route(1, 0));
        p13now();
    }
    /** What is told of the ASK is by all as it is now, whatever changed it. */
    private static void p13now() {
        AbroadRouter x = flat(3);
        x.place(0, 0, 0, 1439);
        int a = way(x, 0, 1, 1, 0, 5);
        x.ask(0, 1, 1_000, 0);
        due(() -> x.route(0, 0), 1440);
        x.holiday(0, 1);
        due(() -> x.route(0, 0), 2 * 1440);
        x.terms(a, 6, 0, 0, 99_999);
        due(() -> x.route(0, 1), 6);
        x.limits(a, 999, 9_999_999);
        missing(() -> x.route(0, 0));
        x.limits(a, 1_000_000, 9_999_999);
        due(() -> x.route(0, 1), 6);
        x.draw(a, 98_995);
        missing(() -> x.route(0, 0));
        x.fund(a, 1);
        due(() -> x.route(0, 1), 6);
        due(() -> x.account(0, 1, 1439, 0, 0), 1);
        x.fund(1, 1_000);
        due(() -> x.route(0, 0), 0);
        due(() -> x.pay(0), 0);
        due(() -> x.route(0, 0), 2 * 1440);
        x.refuse(0);
        due(() -> x.route(0, 0), 0);
        due(() -> x.pay(0), 1);
        x.go(1);
        due(() -> x.route(0, 0), 2 * 1440);
        x.fund(1, 1_000);
        due(() -> x.route(0, 0), 0);
        // Another ACCOUNT, made behind the ASK.
        int quick = x.account(0, 1, 1439, 0, 0);
        x.fund(quick, 1_000);
        x.shut(1, true);
        due(() -> x.step(0, 0, 0), quick);
        p13back();
        p13rerouted();
    }
    private static void p13back() {
        AbroadRouter x = flat(2);
        int a = x.account(0, 1, 1439, 0, 100);
        x.fund(a, 1_000);
        booked(x, 0, 1, 1_000, 0);
        x.go(1);
        x.refuse(0);
        missing(() -> x.route(0, 0));
        x.go(99);
        due(() -> x.route(0, 0), 100);
    }
    private static void p13rerouted() {
        AbroadRouter x = flat(2);
        int slow = x.account(0, 1, 1439, 1, 0);
        x.fund(slow, 1_000);
        booked(x, 0, 1, 1_000, 0);
        int quick = x.account(0, 1, 1439, 0, 0);
        x.fund(quick, 1_000);
        due(() -> x.route(0, 0), 0);
        due(() -> x.reroute(0), 1440);
        due(() -> x.route(0, 0), 1440);
    }

    static void p14() {
        AbroadRouter x = world();
        missing(() -> x.step(0, 0, 0));
        x.ask(0, 2, 1000, 100);
        due(() -> x.step(0, 0, 0), 0);
        due(() -> x.step(0, 0, 1), 480);
        due(() -> x.step(0, 0, 2), 880);
        due(() -> x.step(0, 0, 3), 12);
        due(() -> x.step(0, 0, 4), 680);
        due(() -> x.step(0, 1, 0), 1);
        due(() -> x.step(0, 1, 1), 880);
        due(() -> x.step(0, 1, 2), 2340);
        due(() -> x.step(0, 1, 3), 5);
        due(() -> x.step(0, 1, 4), 20);
        missing(() -> x.step(0, 2, 0));
        missing(() -> x.step(0, -1, 5));
        missing(() -> x.step(2, 0, 0));
        wrong(() -> x.step(0, 0, 5));
        wrong(() -> x.step(0, 0, -1));
        // What is ready when it LEAVES can't come a MINUTE later.
        AbroadRouter y = flat(2);
        way(y, 0, 1, 0, 0, 0);
        y.ask(0, 1, 1, 30);
        due(() -> y.step(0, 0, 4), 0);
        due(() -> y.step(0, 0, 2), 30);
    }

    static void p15() {
        AbroadRouter x = flat(2);
        missing(() -> x.pay(0));
        int a = way(x, 0, 1, 0, 0, 1);
        x.ask(0, 1, 100, 5);
        missing(() -> x.pay(1));
        missing(() -> x.pay(-1));
        x.go(6);
        due(() -> x.pay(0), -2);
        due(() -> x.told(4), 0);
        due(() -> x.accountOf(a, 3), 0);
        x.ask(0, 1, 100, 6);
        due(() -> x.pay(0), 0);
        due(() -> x.accountOf(a, 3), 101);
        due(() -> x.accountOf(a, 2), 100_000);
        due(() -> x.used(a, 0), 100);
        due(() -> x.payment(0, 0), 0);
        for (int i = 1; i < 64; i++) { int n = i; due(() -> x.pay(0), n); }
        due(() -> x.pay(0), -1);
        missing(() -> x.pay(1));
        x.go(1);
        due(() -> x.pay(0), -1);
        due(() -> x.told(6), 64);
    }

    static void p16() {
        AbroadRouter x = new AbroadRouter();
        x.place(0, 0, 0, 1439);
        x.place(0, 0, 480, 1080);
        for (int i = 0; i < 4; i++) x.bank(i == 2 ? 1 : 0);
        way(x, 0, 1, 0, 0, 1);
        way(x, 1, 2, 0, 900, 2);
        way(x, 2, 3, 1, 300, 4);
        missing(() -> x.refuse(0));
        booked(x, 0, 3, 100, 0);
        due(() -> x.payment(0, 6), 1440 + 300);
        x.go(480);
        due(() -> x.payment(0, 4), 2);
        missing(() -> x.refuse(-1));
        due(() -> x.refuse(0), 1);
        due(() -> x.payment(0, 0), 2);
        due(() -> x.accountOf(2, 3), 0);
        due(() -> x.used(2, 0), 0);
        due(() -> x.used(1, 0), 100);
        due(() -> x.leg(0, 2, 4), NONE);
        due(() -> x.leg(0, 1, 4), 900);
        due(() -> x.leg(0, 0, 4), 900);
        due(() -> x.refuse(0), 0);
        due(() -> x.go(420), 2);
        due(() -> x.payment(0, 0), 3);
        due(() -> x.accountOf(0, 2), 99_999);
        due(() -> x.accountOf(1, 2), 99_998);
        due(() -> x.accountOf(2, 2), 100_000);
        due(() -> x.refuse(0), 0);
        // None has LEFT: at once.
        booked(x, 0, 1, 100, 1000);
        due(() -> x.refuse(1), 1);
        due(() -> x.payment(1, 0), 3);
        due(() -> x.payment(1, 8), NONE);
        p16open();
        p16last();
    }
    /** BACK where both are OPEN, each from when the one ahead of it went. */
    private static void p16open() {
        AbroadRouter x = new AbroadRouter();
        x.place(0, 0, 0, 700);
        x.place(0, 0, 600, 1439);
        x.bank(0);
        x.bank(1);
        x.bank(1);
        way(x, 0, 1, 0, 0, 0);
        way(x, 1, 2, 0, 1400, 0);
        booked(x, 0, 2, 100, 0);
        x.go(600);
        due(() -> x.payment(0, 4), 2);
        x.refuse(0);
        due(() -> x.leg(0, 1, 4), 1400);
        due(() -> x.leg(0, 0, 4), 1440 + 600);
        due(() -> x.payment(0, 8), 1400);
        x.go(1400);
        due(() -> x.payment(0, 7), 1);
        due(() -> x.payment(0, 8), 2040);
        // CUT and the room of the DAY are not asked.
        x.limits(0, 0, 0);
        x.go(40);
        due(() -> x.payment(0, 0), 3);
    }
    /** Where there is no such MINUTE any more: LAST. */
    private static void p16last() {
        AbroadRouter x = new AbroadRouter();
        x.place(0, 0, 0, 700);
        x.bank(0);
        x.bank(0);
        way(x, 0, 1, 0, 1000, 0);
        goTo(x, 399 * 1440 + 10);
        booked(x, 0, 1, 100, 399 * 1440 + 10);
        x.go(1);
        x.refuse(0);
        due(() -> x.leg(0, 0, 4), LAST);
        goTo(x, LAST - 1);
        due(() -> x.payment(0, 0), 2);
        due(() -> x.go(1), 1);
        due(() -> x.payment(0, 0), 3);
    }

    static void p17() {
        AbroadRouter x = world();
        missing(() -> x.reroute(0));
        x.ask(0, 2, 1000, 0);
        due(() -> x.pay(1), 0);
        due(() -> x.reroute(0), 1340);
        due(() -> x.payment(0, 3), 2);
        due(() -> x.payment(0, 2), 17);
        due(() -> x.accountOf(2, 3), 0);
        due(() -> x.used(2, 0), 0);
        due(() -> x.accountOf(0, 3), 1012);
        due(() -> x.used(1, 0), 1000);
        due(() -> x.reroute(0), 0);
        due(() -> x.accountOf(0, 3), 1012);
        due(() -> x.used(0, 0), 1000);
        x.go(480);
        due(() -> x.reroute(0), 0);
        x.go(400);
        due(() -> x.payment(0, 4), 2);
        due(() -> x.reroute(0), NONE);
        x.ask(0, 2, 1000, 2000);
        x.pay(0);
        x.refuse(1);
        due(() -> x.reroute(1), NONE);
        p17rest();
        p17seen();
        p17hops();
    }
    /** From the BANK at which it is; what it holds itself is free for it. */
    private static void p17rest() {
        AbroadRouter x = flat(4);
        int first = way(x, 0, 1, 0, 300, 1);
        int slow = way(x, 1, 3, 4, 0, 2);
        booked(x, 0, 3, 60_000, 0);
        due(() -> x.payment(0, 6), 4 * 1440);
        x.go(1);
        int quick = way(x, 1, 3, 1, 0, 7);
        int dear = way(x, 1, 3, 1, 0, 8);
        int sooner = way(x, 0, 3, 0, 0, 0);
        due(() -> x.reroute(0), 3 * 1440);
        due(() -> x.leg(0, 0, 0), first);
        due(() -> x.leg(0, 1, 0), quick);
        due(() -> x.leg(0, 1, 1), 300);
        due(() -> x.leg(0, 1, 6), 7);
        due(() -> x.payment(0, 2), 8);
        due(() -> x.accountOf(slow, 3), 0);
        due(() -> x.accountOf(quick, 3), 60_007);
        due(() -> x.accountOf(dear, 3), 0);
        due(() -> x.accountOf(sooner, 3), 0);
        due(() -> x.late(0), -3 * 1440);
        due(() -> x.reroute(0), 0);
        due(() -> x.accountOf(quick, 3), 60_007);
        // No CHAIN at all: all is as it was.
        x.shut(quick, true);
        x.shut(slow, true);
        x.shut(dear, true);
        due(() -> x.reroute(0), 0);
        due(() -> x.accountOf(quick, 3), 60_007);
        due(() -> x.payment(0, 3), 2);
        // Not ahead of NOW: too late for it to be sooner.
        x.go(200);
        due(() -> x.reroute(0), 0);
    }
    /** Over no BANK at which it was. */
    private static void p17seen() {
        AbroadRouter x = flat(4);
        way(x, 0, 1, 0, 300, 1);
        way(x, 1, 3, 4, 0, 2);
        booked(x, 0, 3, 100, 0);
        x.go(1);
        way(x, 1, 0, 0, 0, 0);
        way(x, 0, 3, 0, 0, 0);
        due(() -> x.reroute(0), 0);
        way(x, 1, 2, 0, 0, 0);
        way(x, 2, 3, 0, 0, 0);
        due(() -> x.reroute(0), 4 * 1440 - 300);
        due(() -> x.payment(0, 3), 3);
        due(() -> x.payment(0, 6), 300);
        AbroadRouter y = flat(5);
        way(y, 0, 1, 0, 0, 0);
        way(y, 1, 2, 0, 300, 0);
        way(y, 2, 4, 4, 0, 0);
        booked(y, 0, 4, 100, 0);
        y.go(1);
        due(() -> y.payment(0, 4), 2);
        way(y, 2, 1, 0, 0, 0);
        way(y, 1, 4, 0, 0, 0);
        due(() -> y.reroute(0), 0);
        way(y, 2, 3, 0, 0, 0);
        way(y, 3, 4, 0, 0, 0);
        due(() -> y.reroute(0), 4 * 1440 - 300);
    }
    /** 5 HOPS at most in all. */
    private static void p17hops() {
        AbroadRouter x = flat(7);
        way(x, 0, 1, 0, 300, 1);
        way(x, 1, 6, 4, 0, 2);
        booked(x, 0, 6, 100, 0);
        x.go(1);
        for (int i = 1; i < 6; i++) way(x, i, i + 1, 0, 0, 0);
        due(() -> x.reroute(0), 0);
        way(x, 4, 6, 0, 0, 0);
        due(() -> x.reroute(0), 4 * 1440 - 300);
        due(() -> x.payment(0, 3), 5);
    }

    static void p18() {
        AbroadRouter x = flat(2);
        way(x, 0, 1, 1, 0, 0);
        wrong(() -> x.told(-1));
        wrong(() -> x.told(10));
        booked(x, 0, 1, 1, 10);
        booked(x, 0, 1, 1, 20);
        booked(x, 0, 1, 1, 30);
        booked(x, 0, 1, 1, 5000);
        due(() -> x.told(9), 10);
        x.go(25);
        due(() -> x.told(0), 25);
        due(() -> x.told(1), 1);
        due(() -> x.told(2), 2);
        due(() -> x.told(3), 1);
        due(() -> x.told(4), 4);
        due(() -> x.told(5), 4);
        due(() -> x.told(9), 30);
        x.refuse(0);
        x.refuse(2);
        due(() -> x.told(5), 2);
        due(() -> x.told(7), 1);
        due(() -> x.told(8), 1);
        due(() -> x.told(9), 1440);
        x.go(1440);
        due(() -> x.told(6), 1);
        due(() -> x.told(7), 0);
        due(() -> x.told(8), 2);
        due(() -> x.told(9), 5000);
    }

    static void p19() {
        AbroadRouter x = new AbroadRouter();
        x.place(-300, 65, 480, 960);
        missing(() -> x.placeOf(1, 0));
        missing(() -> x.placeOf(-1, 8));
        wrong(() -> x.placeOf(0, 8));
        wrong(() -> x.placeOf(0, -1));
        due(() -> x.placeOf(0, 0), -300);
        due(() -> x.placeOf(0, 1), 65);
        due(() -> x.placeOf(0, 2), 480);
        due(() -> x.placeOf(0, 3), 960);
        due(() -> x.placeOf(0, 4), 0);
        due(() -> x.placeOf(0, 5), -1);
        due(() -> x.placeOf(0, 6), 1140);
        due(() -> x.placeOf(0, 7), 0);
        x.holiday(0, 9);
        x.go(1440 + 780);
        due(() -> x.placeOf(0, 4), 1);
        due(() -> x.placeOf(0, 5), 1);
        due(() -> x.placeOf(0, 6), 480);
        due(() -> x.placeOf(0, 7), 1);
        x.go(5 * 1440);
        due(() -> x.placeOf(0, 5), 6);
        due(() -> x.placeOf(0, 7), 0);
    }

    static void p20() {
        AbroadRouter x = flat(3);
        way(x, 0, 1, 0, 0, 0);
        int a = x.account(2, 1, 900, 3, 77);
        x.fund(a, 5_000);
        x.terms(a, 10, 0, 0, 99_999);
        x.limits(a, 4_000, 8_000);
        booked(x, 2, 1, 100, 3);
        booked(x, 2, 1, 200, 1_000);
        x.go(4);
        missing(() -> x.accountOf(2, 0));
        missing(() -> x.accountOf(-1, 13));
        wrong(() -> x.accountOf(a, 13));
        wrong(() -> x.accountOf(a, -1));
        long[] want = {2, 1, 4_890, 210, 4_680, 0, 900, 3, 77, 4_000, 8_000, 1, 0};
        for (int what = 0; what < 13; what++) { int w = what; due(() -> x.accountOf(a, w), want[w]); }
        x.shut(a, true);
        due(() -> x.accountOf(a, 5), 1);
        x.refuse(0);
        x.go(4 * 1440);
        due(() -> x.accountOf(a, 12), 1);
        due(() -> x.accountOf(a, 11), 2);
    }

    static void p21() {
        AbroadRouter x = flat(4);
        way(x, 1, 2, 0, 50, 1);
        way(x, 2, 3, 1, 60, 2);
        booked(x, 1, 3, 500, 20);
        missing(() -> x.payment(1, 0));
        missing(() -> x.payment(-1, 9));
        wrong(() -> x.payment(0, 9));
        wrong(() -> x.payment(0, -1));
        long[] fresh = {0, 500, 3, 2, 0, 0, 1500, 1, 20};
        for (int what = 0; what < 9; what++) { int w = what; due(() -> x.payment(0, w), fresh[w]); }
        x.go(30);
        long[] first = {0, 500, 3, 2, 1, 0, 1500, 2, 50};
        for (int what = 0; what < 9; what++) { int w = what; due(() -> x.payment(0, w), first[w]); }
        x.go(20);
        long[] both = {0, 500, 3, 2, 2, 0, 1500, 3, 1500};
        for (int what = 0; what < 9; what++) { int w = what; due(() -> x.payment(0, w), both[w]); }
        x.refuse(0);
        long[] returning = {2, 500, 3, 2, 2, 0, 1500, 3, 1500};
        for (int what = 0; what < 9; what++) { int w = what; due(() -> x.payment(0, w), returning[w]); }
        x.go(1450);
        long[] returned = {3, 500, 3, 2, 2, 2, 1500, 1, NONE};
        for (int what = 0; what < 9; what++) { int w = what; due(() -> x.payment(0, w), returned[w]); }
        booked(x, 1, 2, 500, 1500);
        x.go(1440);
        due(() -> x.payment(1, 0), 1);
        due(() -> x.payment(1, 8), NONE);
        due(() -> x.payment(1, 7), 2);
    }

    static void p22() {
        AbroadRouter x = flat(4);
        int a = way(x, 0, 1, 0, 50, 1);
        int b = way(x, 1, 2, 1, 60, 2);
        booked(x, 0, 2, 500, 20);
        missing(() -> x.leg(1, 0, 0));
        missing(() -> x.leg(0, 2, 7));
        missing(() -> x.leg(0, -1, 0));
        wrong(() -> x.leg(0, 0, 7));
        wrong(() -> x.leg(0, 0, -1));
        x.go(20);
        long[] first = {a, 20, 50, 1, NONE, 0, 1};
        long[] second = {b, 50, 1500, 0, NONE, 0, 2};
        for (int what = 0; what < 7; what++) { int w = what; due(() -> x.leg(0, 0, w), first[w]); due(() -> x.leg(0, 1, w), second[w]); }
        x.refuse(0);
        due(() -> x.leg(0, 0, 4), 50);
        due(() -> x.leg(0, 1, 4), NONE);
        due(() -> x.leg(0, 0, 5), 0);
        x.go(30);
        due(() -> x.leg(0, 0, 5), 1);
        due(() -> x.leg(0, 1, 5), 0);
        due(() -> x.leg(0, 1, 1), 50);
        due(() -> x.leg(0, 0, 3), 1);
    }

    static void p23() {
        AbroadRouter x = new AbroadRouter();
        x.place(0, 0, 0, 1439);
        x.place(840, 0, 0, 1439);
        x.bank(0);
        x.bank(1);
        int a = way(x, 0, 1, 1, 0, 0);
        int b = way(x, 1, 0, 1, 0, 0);
        missing(() -> x.used(2, 400));
        wrong(() -> x.used(a, 400));
        wrong(() -> x.used(a, -1));
        due(() -> x.used(a, 399), 0);
        booked(x, 0, 1, 100, 599);
        booked(x, 0, 1, 20, 600);
        booked(x, 0, 1, 3, 600);
        booked(x, 1, 0, 7, 600);
        due(() -> x.used(a, 0), 100);
        due(() -> x.used(a, 1), 23);
        due(() -> x.used(b, 0), 7);
        x.go(5000);
        due(() -> x.told(6), 4);
        due(() -> x.used(a, 1), 23);
        // DAYS -1 and 400 have their room, too.
        AbroadRouter y = new AbroadRouter();
        y.place(0, 0, 0, 1439);
        y.place(-60, 0, 0, 1439);
        y.place(60, 0, 0, 1439);
        for (int i = 0; i < 3; i++) y.bank(i);
        int west = way(y, 0, 1, 0, 0, 0);
        int east = way(y, 0, 2, 0, 0, 0);
        y.limits(west, 1_000, 100);
        y.limits(east, 1_000, 100);
        booked(y, 0, 1, 100, 0);
        due(() -> y.leg(0, 0, 1), 0);
        due(() -> y.used(west, 0), 0);
        due(() -> y.leaves(west, 0, 1), 60);
        booked(y, 0, 2, 100, LAST - 10);
        due(() -> y.leg(1, 0, 1), LAST - 10);
        due(() -> y.leaves(east, LAST - 10, 1), NONE);
        due(() -> y.leaves(east, LAST - 60, 1), LAST - 60);
    }

    static void p24() {
        AbroadRouter x = flat(2);
        int a = way(x, 0, 1, 0, 0, 0);
        missing(() -> x.fee(1, 0));
        wrong(() -> x.fee(a, 0));
        wrong(() -> x.fee(a, 1_000_001));
        due(() -> x.fee(a, 1_000_000), 0);
        x.terms(a, 10, 3, 12, 500);
        due(() -> x.fee(a, 1), 12);
        due(() -> x.fee(a, 999), 12);
        due(() -> x.fee(a, 1_000), 13);
        due(() -> x.fee(a, 1_666), 14);
        due(() -> x.fee(a, 1_000_000), 500);
        x.terms(a, 9_999, 100, 0, 99_999);
        due(() -> x.fee(a, 1_000_000), 99_999);
        due(() -> x.fee(a, 899_999), 9_999 + 89_999);
    }

    static void p25() {
        AbroadRouter x = new AbroadRouter();
        x.place(0, 96, 480, 1080);
        x.place(-60, 64, 0, 1439);
        missing(() -> bit(x.open(2, -1)));
        wrong(() -> bit(x.open(0, -1)));
        wrong(() -> bit(x.open(0, LAST + 1)));
        due(() -> bit(x.open(0, 479)), 0);
        due(() -> bit(x.open(0, 480)), 1);
        due(() -> bit(x.open(0, 1080)), 1);
        due(() -> bit(x.open(0, 1081)), 0);
        due(() -> bit(x.open(0, 4 * 1440 + 480)), 1);
        due(() -> bit(x.open(0, 5 * 1440 + 480)), 0);
        due(() -> bit(x.open(0, 7 * 1440 + 480)), 1);
        // DAY -1 is off with DAY 6.
        due(() -> bit(x.open(1, 0)), 0);
        due(() -> bit(x.open(1, 59)), 0);
        due(() -> bit(x.open(1, 60)), 1);
        due(() -> bit(x.open(1, 6 * 1440 + 60)), 0);
        due(() -> bit(x.open(1, 6 * 1440 + 59)), 1);
        x.holiday(0, 1);
        due(() -> bit(x.open(0, 1440 + 480)), 0);
    }

    static void p26() {
        AbroadRouter x = new AbroadRouter();
        x.place(0, 96, 480, 1080);
        x.place(840, 126, 0, 10);
        missing(() -> x.next(2, 0));
        wrong(() -> x.next(0, -1));
        wrong(() -> x.next(0, LAST + 1));
        due(() -> x.next(0, 0), 480);
        due(() -> x.next(0, 481), 481);
        due(() -> x.next(0, 1080), 1080);
        due(() -> x.next(0, 1081), 1920);
        due(() -> x.next(0, 4 * 1440 + 1081), 7 * 1440 + 480);
        due(() -> x.next(0, 399 * 1440 + 1081), NONE);
        // DAY 399 is the first of a week there; 400 is none.
        due(() -> x.next(1, 399 * 1440 - 840), 399 * 1440 - 840);
        due(() -> x.next(1, 399 * 1440 - 840 + 10), 399 * 1440 - 830);
        due(() -> x.next(1, 399 * 1440 - 840 + 11), NONE);
        due(() -> x.next(1, 0), 7 * 1440 - 840);
    }

    static void p27() {
        AbroadRouter x = new AbroadRouter();
        x.place(0, 96, 480, 1080);
        x.place(0, 126, 480, 1080);
        missing(() -> x.after(2, -1, 0));
        wrong(() -> x.after(0, -1, 0));
        wrong(() -> x.after(0, 400, 0));
        wrong(() -> x.after(0, 0, -1));
        wrong(() -> x.after(0, 0, 21));
        due(() -> x.after(0, 5, 0), 5);
        due(() -> x.after(0, 4, 1), 7);
        due(() -> x.after(0, 5, 1), 7);
        due(() -> x.after(0, 0, 20), 28);
        due(() -> x.after(1, 399, 20), 399 + 140);
        due(() -> x.after(1, 398, 20), 399 + 133);
        x.holiday(0, 7);
        due(() -> x.after(0, 4, 1), 8);
        due(() -> x.after(0, 7, 0), 7);
    }

    static void p28() {
        AbroadRouter x = new AbroadRouter();
        x.place(0, 96, 480, 1080);
        x.place(0, 126, 480, 1080);
        missing(() -> x.idle(2, -1));
        wrong(() -> x.idle(0, -1));
        wrong(() -> x.idle(0, 400));
        due(() -> x.idle(0, 4), 0);
        due(() -> x.idle(0, 5), 2);
        due(() -> x.idle(0, 6), 1);
        due(() -> x.idle(1, 393), 6);
        due(() -> x.idle(1, 399), 0);
        for (int week = 1; week <= 40; week++) x.holiday(1, week * 7);
        due(() -> x.idle(1, 1), 40 * 7 + 6);
        x.holiday(0, 7);
        due(() -> x.idle(0, 5), 3);
    }

    static void p29() {
        AbroadRouter x = world();
        missing(() -> x.hours(4, 400));
        wrong(() -> x.hours(0, -1));
        wrong(() -> x.hours(0, 400));
        due(() -> x.hours(0, 0), 301);
        due(() -> x.hours(0, 5), 0);
        due(() -> x.hours(2, 0), 221);
        x.limits(0, 0, 1);
        due(() -> x.hours(0, 0), 301);
        x.limits(0, 1_000_000, 1_000);
        booked(x, 0, 1, 999, 0);
        due(() -> x.hours(0, 0), 301);
        booked(x, 0, 1, 1, 0);
        due(() -> x.hours(0, 0), 0);
        due(() -> x.hours(0, 1), 301);
        // From 0 to LAST alone.
        AbroadRouter y = new AbroadRouter();
        y.place(600, 0, 0, 1439);
        y.place(-600, 0, 0, 1439);
        y.bank(0);
        y.bank(1);
        y.bank(0);
        y.account(1, 0, 1439, 0, 0);
        y.account(0, 1, 1439, 0, 0);
        y.account(0, 2, 1438, 0, 0);
        due(() -> y.hours(0, 0), 840);
        due(() -> y.hours(0, 1), 1440);
        due(() -> y.hours(1, 399), 840);
        due(() -> y.hours(1, 0), 1440);
        due(() -> y.hours(2, 3), 1439);
        due(() -> y.account(0, 2, 0, 0, 0), 3);
        due(() -> y.hours(3, 3), 1);
        due(() -> y.leaves(3, 0, 1), 840);
        due(() -> y.leaves(3, 841, 1), 840 + 1440);
        y.holiday(0, 3);
        due(() -> y.hours(1, 2), 240);
        due(() -> y.hours(1, 3), 1200);
    }

    static void p30() {
        AbroadRouter x = new AbroadRouter();
        x.place(0, 0, 0, 1439);
        x.place(-60, 0, 0, 1439);
        x.bank(0);
        x.bank(1);
        int a = way(x, 0, 1, 1, 0, 0);
        missing(() -> x.busiest(1, 2));
        wrong(() -> x.busiest(a, 2));
        wrong(() -> x.busiest(a, -1));
        due(() -> x.busiest(a, 0), NONE);
        due(() -> x.busiest(a, 1), 0);
        // DAY -1 is none of those.
        booked(x, 0, 1, 500, 0);
        due(() -> x.busiest(a, 0), NONE);
        due(() -> x.busiest(a, 1), 0);
        booked(x, 0, 1, 2, 399 * 1440);
        due(() -> x.busiest(a, 0), 398);
        int east = way(x, 1, 0, 0, 0, 0);
        booked(x, 1, 0, 2, 399 * 1440);
        due(() -> x.busiest(east, 0), 399);
        booked(x, 1, 0, 2, 0);
        due(() -> x.busiest(east, 0), 0);
        booked(x, 0, 1, 300, 3 * 1440 + 60);
        booked(x, 0, 1, 300, 2 * 1440 + 60);
        due(() -> x.busiest(a, 0), 2);
        due(() -> x.busiest(a, 1), 300);
        booked(x, 0, 1, 1, 3 * 1440 + 60);
        due(() -> x.busiest(a, 0), 3);
        due(() -> x.busiest(a, 1), 301);
    }

    static void p31() {
        AbroadRouter x = flat(3);
        int a = way(x, 0, 1, 0, 0, 0);
        int b = way(x, 1, 2, 0, 0, 0);
        missing(() -> x.tied(2));
        due(() -> x.tied(a), 0);
        booked(x, 0, 1, 1, 10);
        booked(x, 0, 2, 1, 20);
        booked(x, 1, 2, 1, 20);
        booked(x, 0, 1, 1, 30);
        due(() -> x.tied(a), 11);
        due(() -> x.tied(b), 6);
        x.go(10);
        due(() -> x.tied(a), 10);
        x.refuse(3);
        due(() -> x.tied(a), 2);
        for (int i = 4; i < 64; i++) booked(x, 0, 1, 1, 40);
        due(() -> x.tied(a), -1L & ~15L | 2);
    }

    static void p32() {
        AbroadRouter x = flat(2);
        int a = x.account(0, 1, 1439, 0, 500);
        missing(() -> x.line(a, 0, 0));
        x.fund(a, 1_000);
        x.go(5);
        x.draw(a, 10);
        x.terms(a, 7, 0, 0, 99_999);
        booked(x, 0, 1, 100, 20);
        booked(x, 0, 1, 200, 20);
        x.go(20);
        x.refuse(0);
        x.go(500);
        missing(() -> x.line(1, 0, 9));
        missing(() -> x.line(a, 5, 9));
        missing(() -> x.line(a, -1, 0));
        wrong(() -> x.line(a, 0, 5));
        wrong(() -> x.line(a, 0, -1));
        long[][] want = {{500, 1, 100, 776, 0}, {20, 0, 207, 676, 1}, {20, 0, 107, 883, 0}, {5, 3, 10, 990, NONE}, {0, 2, 1_000, 1_000, NONE}};
        for (int k = 0; k < 5; k++) {
            int line = k;
            for (int what = 0; what < 5; what++) { int w = what; due(() -> x.line(a, line, w), want[line][w]); }
        }
        for (int i = 1; i <= 20; i++) x.fund(a, i);
        due(() -> x.line(a, 0, 2), 20);
        due(() -> x.line(a, 11, 2), 9);
        missing(() -> x.line(a, 12, 2));
    }

    static void p33() {
        AbroadRouter x = flat(2);
        int a = way(x, 0, 1, 0, 500, 7);
        missing(() -> x.forecast(1, -1));
        wrong(() -> x.forecast(a, -1));
        wrong(() -> x.forecast(a, LAST + 1));
        booked(x, 0, 1, 100, 20);
        booked(x, 0, 1, 200, 40);
        booked(x, 0, 1, 300, 2000);
        due(() -> x.forecast(a, 0), 100_000);
        due(() -> x.forecast(a, 19), 100_000);
        due(() -> x.forecast(a, 20), 99_893);
        due(() -> x.forecast(a, 40), 99_686);
        x.go(40);
        wrong(() -> x.forecast(a, 39));
        x.refuse(0);
        x.refuse(2);
        due(() -> x.forecast(a, 40), 99_686);
        due(() -> x.forecast(a, 499), 99_686);
        due(() -> x.forecast(a, 500), 99_786);
        due(() -> x.forecast(a, LAST), 99_786);
        p33partly();
        // What is due NOW and has not happened yet happens by then.
        booked(x, 0, 1, 10, 40);
        due(() -> x.accountOf(a, 2), 99_686);
        due(() -> x.forecast(a, 40), 99_669);
    }

    /** One HOP is BACK, the other one is not; then a HOLIDAY is told. */
    private static void p33partly() {
        AbroadRouter x = new AbroadRouter();
        x.place(0, 0, 0, 700);
        x.place(0, 0, 600, 1439);
        x.bank(0);
        x.bank(1);
        x.bank(1);
        int a = way(x, 0, 1, 0, 0, 1);
        int b = way(x, 1, 2, 0, 1400, 2);
        booked(x, 0, 2, 100, 0);
        x.go(600);
        x.refuse(0);
        due(() -> x.until(1400), 1);
        due(() -> x.until(2040), 2);
        x.go(900);
        due(() -> x.payment(0, 5), 1);
        due(() -> x.forecast(a, 2039), 99_899);
        due(() -> x.forecast(a, 2040), 99_999);
        due(() -> x.forecast(b, LAST), 99_998);
        due(() -> x.lowest(b, 1), 1500);
        due(() -> x.until(2039), 0);
        due(() -> x.until(2040), 1);
        x.holiday(1, 2);
        due(() -> x.leg(0, 0, 4), 2040);
        due(() -> x.leg(0, 1, 4), 1400);
        x.holiday(0, 1);
        due(() -> x.holiday(1, 3), 1);
        due(() -> x.leg(0, 0, 4), 2040);
        due(() -> x.leg(0, 1, 4), 1400);
        due(() -> x.payment(0, 8), 2040);
        x.go(540);
        due(() -> x.payment(0, 0), 3);
        due(() -> x.accountOf(a, 2), 99_999);
        due(() -> x.accountOf(b, 2), 99_998);
    }

    static void p34() {
        AbroadRouter x = flat(2);
        int a = way(x, 0, 1, 0, 500, 7);
        missing(() -> x.lowest(1, 2));
        wrong(() -> x.lowest(a, 2));
        wrong(() -> x.lowest(a, -1));
        due(() -> x.lowest(a, 0), 100_000);
        due(() -> x.lowest(a, 1), 0);
        booked(x, 0, 1, 100, 20);
        x.go(30);
        due(() -> x.lowest(a, 0), 99_893);
        due(() -> x.lowest(a, 1), 30);
        x.refuse(0);
        due(() -> x.lowest(a, 1), 30);
        booked(x, 0, 1, 50, 400);
        booked(x, 0, 1, 50, 600);
        booked(x, 0, 1, 40, 700);
        // 99,893; at 400 99,836; at 500 99,936; at 600 99,879; at 700 99,832
        due(() -> x.lowest(a, 0), 99_832);
        due(() -> x.lowest(a, 1), 700);
        x.refuse(3);
        due(() -> x.lowest(a, 0), 99_836);
        due(() -> x.lowest(a, 1), 400);
        p34alike();
        // Down and up in one MINUTE: what is behind it counts.
        booked(x, 0, 1, 80, 500);
        due(() -> x.lowest(a, 0), 99_792);
        due(() -> x.lowest(a, 1), 600);
    }

    /** Of alike ones the first, in whatever order they were BOOKED. */
    private static void p34alike() {
        AbroadRouter x = flat(2);
        int a = way(x, 0, 1, 0, 500, 0);
        booked(x, 0, 1, 50, 900);
        due(() -> x.lowest(a, 0), 99_950);
        due(() -> x.lowest(a, 1), 900);
        booked(x, 0, 1, 50, 100);
        x.go(100);
        x.refuse(1);
        // 99,950 now, 100,000 at 500, 99,950 at 900
        due(() -> x.lowest(a, 0), 99_950);
        due(() -> x.lowest(a, 1), 100);
        booked(x, 0, 1, 10, 700);
        booked(x, 0, 1, 10, 150);
        x.go(60);
        booked(x, 0, 1, 60, 300);
        // 99,940 now, 99,880 at 300, 99,930 at 500, 99,920 at 700, 99,870 at 900
        due(() -> x.lowest(a, 0), 99_870);
        due(() -> x.lowest(a, 1), 900);
        booked(x, 0, 1, 10, 300);
        due(() -> x.refuse(2), 1);
        // 99,870 at 300, at 900 99,870
        due(() -> x.lowest(a, 0), 99_870);
        due(() -> x.lowest(a, 1), 300);
    }

    static void p35() {
        AbroadRouter x = world();
        missing(() -> x.late(0));
        x.ask(0, 2, 1000, 0);
        x.pay(1);
        due(() -> x.late(0), 0);
        x.reroute(0);
        due(() -> x.late(0), -1340);
        x.holiday(2, 1);
        due(() -> x.payment(0, 6), 2340 + 1440);
        due(() -> x.late(0), 100);
        x.refuse(0);
        due(() -> x.late(0), 100);
        missing(() -> x.late(-1));
    }

    static void p36() {
        AbroadRouter x = world();
        missing(() -> x.leaves(4, -1, 0));
        wrong(() -> x.leaves(0, -1, 1));
        wrong(() -> x.leaves(0, LAST + 1, 1));
        wrong(() -> x.leaves(0, 0, 0));
        wrong(() -> x.leaves(0, 0, 1_000_001));
        due(() -> x.leaves(0, 0, 1_000_000), 480);
        due(() -> x.leaves(0, 780, 1), 780);
        due(() -> x.leaves(0, 781, 1), 1920);
        due(() -> x.leaves(2, 0, 1), 780);
        due(() -> x.leaves(2, 1001, 1), 2220);
        due(() -> x.leaves(3, 4 * 1440 + 881, 1), 7 * 1440 + 480);
        x.shut(0, true);
        due(() -> x.leaves(0, 0, 1), 480);
        x.limits(0, 99, 500);
        due(() -> x.leaves(0, 0, 100), NONE);
        due(() -> x.leaves(0, LAST, 1), NONE);
        due(() -> x.leaves(0, 570_000, 1), x.next(0, 570_000 / 1440 * 1440 + 1440));
        // CUT ahead of OPENS: never.
        int never = x.account(0, 1, 539, 0, 0);
        due(() -> x.leaves(never, 0, 1), NONE);
        int once = x.account(0, 1, 601, 0, 0);
        due(() -> x.leaves(once, 0, 1), 480);
        due(() -> x.leaves(once, 482, 1), 1920);
    }

    static void p37() {
        AbroadRouter x = world();
        missing(() -> x.arrives(4, -1, 0));
        wrong(() -> x.arrives(0, -1, 1));
        wrong(() -> x.arrives(0, 0, 1_000_001));
        due(() -> x.arrives(0, 0, 1), 880);
        due(() -> x.arrives(1, 880, 1), 2340);
        due(() -> x.arrives(2, 0, 1), 3680);
        due(() -> x.arrives(3, 0, 1), 480);
        due(() -> x.arrives(3, 500, 1), 500);
        due(() -> x.arrives(2, 4 * 1440, 1), 8 * 1440 + 800);
        x.holiday(2, 1);
        due(() -> x.arrives(2, 0, 1), 3680 + 1440);
        x.limits(2, 0, 0);
        due(() -> x.arrives(2, 0, 1), NONE);
        AbroadRouter y = flat(2);
        int a = y.account(0, 1, 1439, 5, 1439);
        due(() -> y.arrives(a, 394 * 1440 + 1439, 1), LAST);
        due(() -> y.arrives(a, 395 * 1440, 1), NONE);
        due(() -> y.leaves(a, 395 * 1440, 1), 395 * 1440);
    }

    static void p38() {
        AbroadRouter x = world();
        missing(() -> x.reach(4, 0, 0));
        wrong(() -> x.reach(0, 0, 0));
        wrong(() -> x.reach(0, 1_000_001, 0));
        wrong(() -> x.reach(0, 1, -1));
        wrong(() -> x.reach(0, 1, LAST + 1));
        due(() -> x.reach(0, 1000, 0), 6);
        due(() -> x.reach(1, 1000, 0), 4);
        due(() -> x.reach(2, 1000, 0), 0);
        due(() -> x.reach(0, 49_996, 0), 4);
        due(() -> x.reach(0, 50_001, 0), 0);
        due(() -> x.reach(0, 1000, LAST), 0);
        x.fund(3, 1);
        due(() -> x.reach(0, 1, 0), 14);
        x.shut(0, true);
        due(() -> x.reach(0, 1, 0), 12);
        int home = x.account(2, 0, 1439, 0, 0);
        x.fund(home, 1);
        due(() -> x.reach(2, 1, 0), 9);
    }

    static void p39() {
        AbroadRouter x = world();
        wrong(() -> x.cheapest(0));
        x.ask(0, 2, 1000, 0);
        wrong(() -> x.cheapest(-1));
        wrong(() -> x.cheapest(LAST + 1));
        due(() -> x.cheapest(2339), NONE);
        due(() -> x.cheapest(2340), 17);
        due(() -> x.cheapest(3679), 17);
        due(() -> x.cheapest(3680), 0);
        due(() -> x.cheapest(LAST), 0);
        x.ask(2, 0, 1000, 0);
        due(() -> x.cheapest(LAST), NONE);
    }

    static void p40() {
        AbroadRouter x = world();
        wrong(() -> x.latest(0));
        x.ask(0, 2, 1000, 0);
        wrong(() -> x.latest(-1));
        wrong(() -> x.latest(LAST + 1));
        due(() -> x.latest(2339), NONE);
        due(() -> x.latest(2340), 780);
        due(() -> x.latest(3680), 1000);
        due(() -> x.latest(3780), 2220);
        x.ask(0, 2, 1000, 780);
        due(() -> x.latest(2340), 780);
        x.ask(0, 2, 1000, 781);
        due(() -> x.latest(2340), NONE);
        // The room of a DAY is asked there, too.
        x.limits(0, 1_000_000, 1_000);
        x.ask(0, 2, 1000, 0);
        x.pay(0);
        due(() -> x.latest(2340), NONE);
        AbroadRouter y = flat(2);
        way(y, 0, 1, 0, 0, 0);
        y.ask(0, 1, 1, 5);
        due(() -> y.latest(LAST), LAST);
        due(() -> y.latest(5), 5);
        due(() -> y.latest(4), NONE);
        y.limits(0, 1, 1);
        due(() -> y.latest(5), 5);
        y.limits(0, 1, 0);
        due(() -> y.latest(5), NONE);
        p40hops();
    }
    private static void p40hops() {
        AbroadRouter x = flat(7);
        for (int i = 0; i < 6; i++) way(x, i, i + 1, 0, 0, 1);
        x.ask(0, 5, 1, 0);
        due(() -> x.latest(100), 100);
        x.ask(0, 6, 1, 0);
        due(() -> x.latest(100), NONE);
        x.ask(0, 4, 1, 0);
        due(() -> x.latest(100), 100);
        x.shut(2, true);
        due(() -> x.latest(100), NONE);
        AbroadRouter z = flat(7);
        for (int i = 6; i > 0; i--) way(z, i - 1, i, 0, 0, 1);
        z.ask(0, 5, 1, 0);
        due(() -> z.latest(100), 100);
        due(() -> z.fewest(100), 5);
        z.ask(0, 6, 1, 0);
        due(() -> z.latest(100), NONE);
        due(() -> z.fewest(100), NONE);
        due(() -> z.soonest(6), NONE);
        int hall = way(x, 1, 4, 1, 0, 0);
        due(() -> x.latest(1440), 1439);
        x.draw(hall, 100_000);
        due(() -> x.latest(1440), NONE);
        // Not later than its PLACES are OPEN.
        AbroadRouter y = new AbroadRouter();
        y.place(0, 0, 0, 1439);
        y.place(0, 0, 600, 700);
        y.bank(0);
        y.bank(1);
        way(y, 1, 0, 0, 0, 0);
        y.ask(1, 0, 1, 100);
        due(() -> y.latest(599), NONE);
        due(() -> y.latest(600), 600);
        due(() -> y.latest(800), 700);
        y.ask(1, 0, 1, 650);
        due(() -> y.latest(649), NONE);
        y.ask(1, 0, 1, 701);
        due(() -> y.latest(2039), NONE);
        due(() -> y.latest(2040), 2040);
    }

    static void p41() {
        AbroadRouter x = world();
        wrong(() -> x.most(0));
        x.ask(0, 2, 1000, 0);
        wrong(() -> x.most(-1));
        wrong(() -> x.most(LAST + 1));
        due(() -> x.most(2339), 0);
        due(() -> x.most(2340), 49_891);
        due(() -> x.most(3680), 50_000);
        x.limits(2, 300, 9_999_999);
        due(() -> x.most(3680), 49_891);
        x.shut(0, true);
        due(() -> x.most(3680), 300);
        AbroadRouter y = flat(2);
        way(y, 0, 1, 0, 0, 0);
        y.fund(0, 9_999_999);
        y.ask(0, 1, 1, 5);
        due(() -> y.most(5), 1_000_000);
        due(() -> y.most(4), 0);
        y.limits(0, 1_000_000, 700);
        due(() -> y.most(5), 700);
        y.pay(0);
        due(() -> y.most(5), 699);
        due(() -> y.most(1440), 700);
    }

    static void p42() {
        AbroadRouter x = world();
        missing(() -> x.bars(4));
        wrong(() -> x.bars(0));
        x.ask(0, 2, 1000, 0);
        missing(() -> x.bars(-1));
        due(() -> x.bars(0), 0);
        due(() -> x.bars(3), 2);
        x.limits(3, 0, 0);
        due(() -> x.bars(3), 2);
        x.fund(3, 1_000);
        due(() -> x.bars(3), 3);
        x.limits(3, 1_000, 999);
        due(() -> x.bars(3), 4);
        x.limits(3, 1_000, 1_000);
        due(() -> x.bars(3), 0);
        x.terms(3, 1, 0, 0, 99_999);
        due(() -> x.bars(3), 2);
        x.shut(3, true);
        due(() -> x.bars(3), 1);
        x.ask(0, 2, 1000, 397 * 1440);
        due(() -> x.bars(2), x.leaves(2, 397 * 1440, 1000) == NONE ? 4 : x.arrives(2, 397 * 1440, 1000) == NONE ? 5 : 0);
        AbroadRouter y = flat(2);
        way(y, 0, 1, 1, 0, 0);
        y.ask(0, 1, 1, LAST);
        due(() -> y.bars(0), 5);
        y.holiday(0, 399);
        due(() -> y.bars(0), 4);
    }

    static void p43() {
        AbroadRouter x = world();
        missing(() -> x.soonest(4));
        wrong(() -> x.soonest(0));
        x.ask(0, 2, 1000, 0);
        missing(() -> x.soonest(-1));
        due(() -> x.soonest(0), NONE);
        due(() -> x.soonest(1), 880);
        due(() -> x.soonest(2), 2340);
        due(() -> x.soonest(3), NONE);
        x.fund(3, 1_000);
        due(() -> x.soonest(3), 480);
        x.shut(0, true);
        due(() -> x.soonest(2), 3680);
        due(() -> x.soonest(1), NONE);
    }

    static void p44() {
        AbroadRouter x = world();
        wrong(() -> x.fewest(0));
        x.ask(0, 2, 1000, 0);
        wrong(() -> x.fewest(-1));
        wrong(() -> x.fewest(LAST + 1));
        due(() -> x.fewest(2339), NONE);
        due(() -> x.fewest(2340), 2);
        due(() -> x.fewest(3679), 2);
        due(() -> x.fewest(3680), 1);
        AbroadRouter y = flat(6);
        for (int i = 0; i < 5; i++) way(y, i, i + 1, 0, 0, 0);
        y.ask(0, 5, 1, 0);
        due(() -> y.fewest(0), 5);
        // Beaten ones count: as soon, dearer, but fewer.
        way(y, 0, 5, 0, 0, 99);
        due(() -> y.fewest(0), 1);
        due(() -> y.route(0, 2), 5);
    }

    static void p45() {
        AbroadRouter x = world();
        missing(() -> x.delay(4));
        wrong(() -> x.delay(0));
        x.ask(0, 2, 1000, 0);
        missing(() -> x.delay(-1));
        due(() -> x.delay(0), 1340);
        due(() -> x.delay(1), 1340);
        due(() -> x.delay(2), 0);
        due(() -> x.delay(3), 0);
        x.shut(2, true);
        due(() -> x.delay(0), NONE);
        due(() -> x.delay(2), 0);
        due(() -> x.accountOf(0, 5), 0);
        x.ask(2, 0, 1000, 0);
        due(() -> x.delay(3), NONE);
    }

    static void p46() {
        AbroadRouter x = world();
        missing(() -> x.bankOf(4, 5));
        missing(() -> x.bankOf(-1, 0));
        wrong(() -> x.bankOf(0, 5));
        wrong(() -> x.bankOf(0, -1));
        due(() -> x.bankOf(3, 0), 1);
        due(() -> x.bankOf(0, 1), 3);
        due(() -> x.bankOf(0, 2), 0);
        due(() -> x.bankOf(2, 2), 2);
        due(() -> x.bankOf(2, 1), 0);
        due(() -> x.bankOf(0, 3), 100_000);
        due(() -> x.bankOf(0, 4), 0);
        booked(x, 0, 2, 1000, 0);
        due(() -> x.bankOf(0, 4), 1012);
        due(() -> x.bankOf(1, 4), 1005);
        // More than an int.
        AbroadRouter y = flat(2);
        for (int i = 0; i < 3; i++) {
            int a = y.account(0, 1, 0, 0, 0);
            for (int k = 0; k < 100; k++) y.fund(a, 9_999_999);
        }
        due(() -> y.bankOf(0, 3), 3L * 999_999_900);
    }

    static void p47() {
        AbroadRouter x = flat(3);
        for (int i = 0; i < 45; i++) x.account(1, 0, 0, 0, 0);
        int a = way(x, 0, 1, 0, 0, 0);
        int b = way(x, 1, 2, 0, 0, 0);
        booked(x, 0, 1, 1, 10);
        booked(x, 0, 2, 1, 10);
        booked(x, 1, 2, 1, 10);
        missing(() -> x.shared(0, 3));
        missing(() -> x.shared(-1, 0));
        due(() -> x.shared(0, 0), 1L << a);
        due(() -> x.shared(1, 1), 1L << a | 1L << b);
        due(() -> x.shared(0, 1), 1L << a);
        due(() -> x.shared(2, 1), 1L << b);
        due(() -> x.shared(0, 2), 0);
        x.go(20);
        due(() -> x.shared(0, 1), 1L << a);
    }

    static void p48() {
        AbroadRouter x = flat(3);
        way(x, 0, 1, 0, 100, 3);
        way(x, 1, 2, 0, 0, 4);
        missing(() -> x.tiedUp(0));
        booked(x, 0, 2, 500, 10);
        due(() -> x.tiedUp(0), 1007);
        x.go(10);
        due(() -> x.tiedUp(0), 504);
        missing(() -> x.tiedUp(-1));
        booked(x, 0, 2, 500, 10);
        x.refuse(1);
        due(() -> x.tiedUp(1), 0);
        x.go(90);
        due(() -> x.tiedUp(0), 0);
    }

    static void p49() {
        AbroadRouter x = new AbroadRouter();
        x.place(0, 96, 0, 1);
        missing(() -> x.days(1, 5, 4));
        wrong(() -> x.days(0, -1, 4));
        wrong(() -> x.days(0, 5, 4));
        wrong(() -> x.days(0, 5, 400));
        wrong(() -> x.days(0, 400, 400));
        due(() -> x.days(0, 0, 13), 10);
        due(() -> x.days(0, 5, 6), 0);
        due(() -> x.days(0, 4, 4), 1);
        due(() -> x.days(0, 0, 399), 286);
        x.holiday(0, 4);
        due(() -> x.days(0, 4, 4), 0);
        due(() -> x.days(0, 0, 399), 285);
    }

    static void p50() {
        AbroadRouter x = world();
        wrong(() -> x.until(-1));
        wrong(() -> x.until(LAST + 1));
        due(() -> x.until(LAST), 0);
        booked(x, 0, 2, 1000, 0);
        due(() -> x.until(479), 0);
        due(() -> x.until(480), 1);
        due(() -> x.until(879), 1);
        due(() -> x.until(880), 2);
        due(() -> x.until(2339), 2);
        due(() -> x.until(2340), 3);
        x.go(480);
        wrong(() -> x.until(479));
        due(() -> x.until(480), 0);
        due(() -> x.until(2340), 2);
        x.refuse(0);
        due(() -> x.until(879), 0);
        due(() -> x.until(880), 1);
        due(() -> x.until(LAST), 1);
        x.fund(3, 100);
        booked(x, 0, 3, 50, 480);
        due(() -> x.until(480), 2);
        booked(x, 0, 3, 40, 490);
        due(() -> x.until(489), 2);
        due(() -> x.until(490), 4);
        due(() -> x.until(880), 5);
    }

    static void p51() {
        AbroadRouter x = world();
        missing(() -> x.due(4, 400));
        wrong(() -> x.due(0, 400));
        wrong(() -> x.due(0, -1));
        booked(x, 0, 2, 1000, 0);
        booked(x, 0, 2, 500, 0);
        booked(x, 0, 1, 7, 0);
        due(() -> x.due(2, 1), 1500);
        due(() -> x.due(2, 0), 0);
        due(() -> x.due(1, 0), 7);
        due(() -> x.due(1, 1), 0);
        x.refuse(1);
        due(() -> x.due(2, 1), 1000);
        x.go(880);
        due(() -> x.due(1, 0), 0);
        // The DAY there, not that of the clock.
        AbroadRouter y = new AbroadRouter();
        y.place(840, 0, 0, 1439);
        y.bank(0);
        y.bank(0);
        way(y, 0, 1, 0, 0, 0);
        booked(y, 0, 1, 9, 600);
        due(() -> y.due(1, 0), 0);
        due(() -> y.due(1, 1), 9);
    }

    static void p52() {
        AbroadRouter x = world();
        missing(() -> x.needs(4, 0));
        wrong(() -> x.needs(0, 0));
        x.ask(0, 2, 1000, 0);
        wrong(() -> x.needs(0, -1));
        wrong(() -> x.needs(0, LAST + 1));
        due(() -> x.needs(0, 2340), 0);
        due(() -> x.needs(3, 2340), 0);
        due(() -> x.needs(0, 2339), NONE);
        x.draw(0, 49_500);
        due(() -> x.needs(0, 2340), 512);
        due(() -> x.needs(1, 2340), NONE);
        due(() -> x.needs(0, 3680), 0);
        x.shut(0, true);
        due(() -> x.needs(0, 2340), NONE);
        x.shut(0, false);
        x.limits(0, 999, 9_999_999);
        due(() -> x.needs(0, 2340), NONE);
        due(() -> x.accountOf(0, 2), 500);
        // Not by one ACCOUNT alone, if two want money.
        x.limits(0, 1_000, 9_999_999);
        x.draw(1, 50_000);
        due(() -> x.needs(0, 2340), NONE);
        x.ask(1, 2, 1000, 0);
        due(() -> x.needs(1, LAST), 1005);
    }

    static void p53() {
        AbroadRouter x = world();
        missing(() -> x.without(4));
        wrong(() -> x.without(0));
        x.ask(0, 2, 1000, 0);
        missing(() -> x.without(-1));
        due(() -> x.without(0), 1);
        due(() -> x.without(1), 1);
        due(() -> x.without(2), 1);
        due(() -> x.without(3), 2);
        due(() -> x.route(1, 1), 0);
        x.shut(2, true);
        due(() -> x.without(0), 0);
        due(() -> x.without(2), 1);
        // One that is beaten takes the place of the one that beat it.
        AbroadRouter y = flat(2);
        way(y, 0, 1, 0, 100, 1);
        way(y, 0, 1, 0, 200, 1);
        way(y, 0, 1, 0, 100, 3);
        due(() -> y.ask(0, 1, 1, 0), 1);
        due(() -> y.without(0), 2);
    }

    static void p54() {
        AbroadRouter x = world();
        wrong(() -> x.vital());
        x.ask(0, 2, 1000, 0);
        due(() -> x.vital(), 0);
        x.shut(2, true);
        due(() -> x.vital(), 3);
        x.shut(1, true);
        due(() -> x.vital(), 0);
        AbroadRouter y = flat(3);
        for (int i = 0; i < 46; i++) y.account(2, 1, 0, 0, 0);
        way(y, 0, 1, 0, 0, 0);
        y.ask(0, 1, 1, 0);
        due(() -> y.vital(), 1L << 46);
        way(y, 0, 1, 5, 0, 9);
        due(() -> y.vital(), 0);
    }

    static void p55() {
        AbroadRouter x = new AbroadRouter();
        due(() -> x.status(0), 0);
        due(() -> x.status(1), 0);
        for (int what : new int[] {-1, 2, 3, MOST_INT, LEAST_INT}) due(() -> x.status(what), NONE);
        missing(() -> x.bank(0));
        wrong(() -> x.go(0));
        wrong(() -> x.vital());
        missing(() -> x.pay(0));
        missing(() -> x.ask(0, 0, 0, 0));
        due(() -> x.status(0), 3);
        due(() -> x.status(1), 2);
        x.place(0, 0, 0, 1);
        x.bank(0);
        x.bank(0);
        due(() -> x.ask(0, 1, 1, 0), 0);
        due(() -> x.status(0), 3);
        due(() -> x.status(1), 2);
    }
}
