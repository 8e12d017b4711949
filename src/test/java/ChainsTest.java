import java.util.Random;

/**
 * ROUTES of dense worlds with many alike times and FEES, of which AbroadRouter drops most CHAINS on the way, and what
 * could be there: as PlainRouter finds them, which tries all. Arguments: how many worlds, the first seed (both may be
 * left out).
 */
public final class ChainsTest extends Checks {
    private final Random random;
    private final AbroadRouter fast = new AbroadRouter();
    private final PlainRouter plain = new PlainRouter();
    private final int banks;

    private ChainsTest(long seed) {
        random = new Random(seed);
        banks = 3 + random.nextInt(4);
        about = "world " + seed;
    }

    public static void main(String[] args) {
        int worlds = args.length > 0 ? Integer.parseInt(args[0]) : 100;
        long seed = args.length > 1 ? Long.parseLong(args[1]) : 1;
        for (int i = 0; i < worlds && wrongs == 0; i++) {
            ChainsTest test = new ChainsTest(seed + i);
            test.world();
            for (int k = 0; k < 3; k++) test.ask();
            test.reroute();
            ChainsTest other = new ChainsTest(seed + i);
            other.world();
            other.poorer();
            for (int k = 0; k < 2; k++) other.askWhatCouldBe();
        }
        System.out.println(checks + " checks of " + worlds + " dense worlds, " + wrongs + " not as due");
        if (wrongs != 0) System.exit(1);
    }

    private int one(int... of) { return of[random.nextInt(of.length)]; }

    private void world() {
        int places = 1 + random.nextInt(2);
        for (int i = 0; i < places; i++) {
            int offset = one(0, 0, 60);
            int shuts = one(1439, 700);
            fast.place(offset, 0, 0, shuts);
            plain.place(offset, 0, 0, shuts);
        }
        for (int i = 0; i < banks; i++) {
            int place = random.nextInt(places);
            fast.bank(place);
            plain.bank(place);
        }
        int accounts = 8 + random.nextInt(9);
        for (int i = 0; i < accounts; i++) account();
    }
    private void account() {
        int from = random.nextInt(banks);
        int to = (from + 1 + random.nextInt(random.nextBoolean() ? 1 : banks - 1)) % banks;
        int cut = one(1439, 1439, 300, 150);
        int lag = one(0, 0, 0, 1);
        int ready = one(0, 0, 100, 200, 300);
        int fix = one(0, 1, 1, 2, 3);
        int account = fast.account(from, to, cut, lag, ready);
        plain.account(from, to, cut, lag, ready);
        fast.fund(account, 5_000);
        plain.fund(account, 5_000);
        fast.terms(account, fix, 0, 0, 99_999);
        plain.terms(account, fix, 0, 0, 99_999);
    }

    /** Some ACCOUNTS that can be in no CHAIN, or hardly. */
    private void poorer() {
        for (int i = 0; i < plain.told(3); i++) {
            int account = i;
            int limit = one(1_000_000, 1_000, 999);
            int daily = one(9_999_999, 1_000, 999);
            int rest = one(1_000, 1_001, 1_003, 1);
            switch (random.nextInt(8)) {
                case 0: due(() -> bit(fast.shut(account, true)), bit(plain.shut(account, true))); break;
                case 1: due(() -> fast.draw(account, 5_000 - rest), plain.draw(account, 5_000 - rest)); break;
                case 2: due(() -> fast.limits(account, limit, daily), plain.limits(account, limit, daily)); break;
                default:
            }
        }
    }
    private void askWhatCouldBe() {
        int from = random.nextInt(banks);
        int to = (from + 1 + random.nextInt(banks - 1)) % banks;
        int minute = one(0, 100, 120, 400, 1_000, LAST - 300, LAST - 2_000);
        int routes = plain.ask(from, to, 1_000, minute);
        due(() -> fast.ask(from, to, 1_000, minute), routes);
        int end = routes == 0 ? minute + 1_000 : plain.route(random.nextInt(routes), 0);
        for (int by : new int[] {end - 1, end, end + one(60, 240, 1_440)}) askBy(Math.max(0, Math.min(LAST, by)));
        for (int i = 0; i < plain.told(3); i++) {
            int account = i;
            due(() -> fast.bars(account), plain.bars(account));
            due(() -> fast.delay(account), plain.delay(account));
            due(() -> fast.without(account), plain.without(account));
            due(() -> fast.needs(account, Math.min(LAST, end)), plain.needs(account, Math.min(LAST, end)));
        }
        for (int i = 0; i < banks; i++) {
            int bank = i;
            due(() -> fast.soonest(bank), plain.soonest(bank));
            due(() -> fast.reach(bank, 1_000, minute), plain.reach(bank, 1_000, minute));
        }
        due(() -> fast.vital(), plain.vital());
        due(() -> routes == 0 ? 0 : fast.route(routes - 1, 1), routes == 0 ? 0 : plain.route(routes - 1, 1));
    }
    private void askBy(int minute) {
        due(() -> fast.cheapest(minute), plain.cheapest(minute));
        due(() -> fast.fewest(minute), plain.fewest(minute));
        due(() -> fast.latest(minute), plain.latest(minute));
        due(() -> fast.most(minute), plain.most(minute));
    }

    private void ask() {
        int from = random.nextInt(banks);
        int to = (from + 1 + random.nextInt(banks - 1)) % banks;
        int minute = one(0, 100, 120, 400, 1_000);
        int routes = plain.ask(from, to, 1_000, minute);
        due(() -> fast.ask(from, to, 1_000, minute), routes);
        for (int k = 0; k < routes; k++) {
            int route = k;
            for (int what = 0; what <= 2; what++) { int w = what; due(() -> fast.route(route, w), plain.route(route, w)); }
            int length = plain.route(route, 2);
            for (int i = 0; i < length; i++) {
                int step = i;
                for (int what = 0; what <= 4; what++) { int w = what; due(() -> fast.step(route, step, w), plain.step(route, step, w)); }
            }
        }
        if (routes > 0) {
            int k = random.nextInt(routes);
            due(() -> fast.pay(k), plain.pay(k));
        }
    }
    /** What goes on from where it is, by so few ACCOUNTS and over no BANK twice. */
    private void reroute() {
        int minutes = one(1, 100, 300);
        due(() -> fast.go(minutes), plain.go(minutes));
        for (int i = 0; i < 4; i++) account();
        for (int i = 0; i < plain.told(4); i++) {
            int payment = i;
            due(() -> fast.reroute(payment), plain.reroute(payment));
            for (int hop = 0; hop < plain.payment(payment, 3); hop++) {
                int h = hop;
                due(() -> fast.leg(payment, h, 0), plain.leg(payment, h, 0));
                due(() -> fast.leg(payment, h, 2), plain.leg(payment, h, 2));
            }
        }
    }
}
