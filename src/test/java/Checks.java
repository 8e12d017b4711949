import java.util.NoSuchElementException;

/** What tests by hand share: how an answer is looked at, and small worlds. */
class Checks {
    static final int NONE = -1;
    static final int LAST = 575_999;
    static final int DAY = 1_440;
    static final int LEAST_INT = Integer.MIN_VALUE;
    static final int MOST_INT = Integer.MAX_VALUE;

    interface Call { long answer(); }

    static int checks;
    static int wrongs;
    /** What is tested just now, for what is printed. */
    static String about = "";

    static void due(Call call, long want) {
        checks++;
        try {
            long got = call.answer();
            if (got != want) say("answered " + got + ", due is " + want);
        } catch (RuntimeException e) {
            say("threw " + e + ", due is " + want);
        }
    }
    static void missing(Call call) { throwing(call, NoSuchElementException.class); }
    static void wrong(Call call) { throwing(call, IllegalArgumentException.class); }
    static void throwing(Call call, Class<?> want) {
        checks++;
        try {
            say("answered " + call.answer() + ", due is " + want.getSimpleName());
        } catch (RuntimeException e) {
            if (e.getClass() != want) say("threw " + e + ", due is " + want.getSimpleName());
        }
    }
    static void say(String text) {
        wrongs++;
        int line = 0;
        for (StackTraceElement frame : new Throwable().getStackTrace()) {
            if (frame.getClassName().endsWith("Test") && !frame.getMethodName().startsWith("lambda")) {
                line = frame.getLineNumber();
                break;
            }
        }
        System.out.println(about + ", line " + line + ": " + text);
    }
    static long bit(boolean is) { return is ? 1 : 0; }

    // ---- worlds ----

    /** One PLACE, always OPEN, by the world's clock; so many BANKS there. */
    static AbroadRouter flat(int banks) {
        AbroadRouter x = new AbroadRouter();
        x.place(0, 0, 0, 1439);
        for (int i = 0; i < banks; i++) x.bank(0);
        return x;
    }
    /** An ACCOUNT with a BALANCE and a fixed FEE; of a flat world its money is there a LAG of days later, at READY. */
    static int way(AbroadRouter x, int from, int to, int lag, int ready, int fix) {
        int account = x.account(from, to, 1439, lag, ready);
        x.fund(account, 100_000);
        x.terms(account, fix, 0, 0, 99_999);
        return account;
    }
    /** Up to a MINUTE, however far. */
    static void goTo(AbroadRouter x, int minute) {
        while (x.told(0) < minute) x.go(Math.min(20_160, minute - x.told(0)));
    }
    static int booked(AbroadRouter x, int from, int to, int amount, int minute) {
        x.ask(from, to, amount, minute);
        return x.pay(0);
    }
}
