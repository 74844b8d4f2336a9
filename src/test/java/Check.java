import java.util.function.IntSupplier;

/** What the tests share: counting wrong answers, reading an object's state, and coming online. */
final class Check {
    static final int[] NO_ACCOUNTS = {-1, 8, Integer.MIN_VALUE, Integer.MAX_VALUE};
    static final int[] NO_CONNECTIONS = {-1, 6, Integer.MIN_VALUE, Integer.MAX_VALUE};
    static final int PASSWORD = 77;

    private static int wrong = 0;

    private Check() {
    }

    static void same(String what, Object got, Object want) {
        if (!want.equals(got)) {
            wrong++;
            System.out.println(what + " answered " + got + ", due is " + want);
        }
    }

    /** What a call answers, or the name of what it throws. */
    static String outcome(IntSupplier call) {
        try {
            return Integer.toString(call.getAsInt());
        } catch (RuntimeException e) {
            return e.getClass().getSimpleName();
        }
    }

    static void answers(String what, int want, IntSupplier call) {
        same(what, outcome(call), Integer.toString(want));
    }

    static void badArgument(String what, IntSupplier call) {
        same(what, outcome(call), "IllegalArgumentException");
    }

    static void badState(String what, IntSupplier call) {
        same(what, outcome(call), "IllegalStateException");
    }

    static void noElement(String what, IntSupplier call) {
        same(what, outcome(call), "NoSuchElementException");
    }

    /** All that an object tells without being changed by it: some 100 calls of the 512 that it is good for. */
    static String state(XmppPair x) {
        StringBuilder text = new StringBuilder();
        for (int c = 0; c < 6; c++) {
            for (int what = 0; what < 5; what++) {
                text.append(x.connection(c, what)).append(',');
            }
        }
        for (int a = 0; a < 8; a++) {
            for (int other = 0; other < 8; other++) {
                text.append(a == other ? 0 : x.roster(a, other)).append(',');
            }
        }
        for (int what = 0; what < 12; what++) {
            text.append(x.count(what)).append(',');
        }
        for (int what = 0; what < 3; what++) {
            int asked = what;
            text.append(outcome(() -> x.taken(asked))).append(',');
        }
        return text.toString();
    }

    /** Takes all that an inbox holds: kind/account/resource/value of each stanza. */
    static String drain(XmppPair x, int connection) {
        StringBuilder text = new StringBuilder();
        int held = x.connection(connection, 4);
        for (int i = 0; i < held; i++) {
            if (i > 0) {
                text.append(' ');
            }
            text.append(x.take(connection)).append('/').append(x.taken(0));
            text.append('/').append(x.taken(1)).append('/').append(x.taken(2));
        }
        return text.toString();
    }

    static void inbox(XmppPair x, int connection, String want) {
        same("the inbox of " + connection, drain(x, connection), want);
    }

    static void marks(XmppPair x, int account, int other, int want) {
        answers("roster(" + account + ", " + other + ")", want, () -> x.roster(account, other));
    }

    /** A new object with all accounts registered. */
    static XmppPair withAccounts() {
        XmppPair x = new XmppPair();
        for (int account = 0; account < 8; account++) {
            x.register(account, PASSWORD);
        }
        return x;
    }

    static int proofFor(int password, int challenge) {
        return (password * 31 + challenge) % 10007;
    }

    static void toKnown(XmppPair x, int connection, int account) {
        x.connect(connection);
        int challenge = x.login(connection, account);
        x.prove(connection, proofFor(PASSWORD, challenge));
    }

    static void toBound(XmppPair x, int connection, int account, int resource) {
        toKnown(x, connection, account);
        x.bind(connection, resource);
    }

    static void online(XmppPair x, int connection, int account, int resource, int priority) {
        toBound(x, connection, account, resource);
        x.here(connection, priority);
    }

    /** The watcher's account asks and the other one grants, and both inboxes are emptied. */
    static void befriend(XmppPair x, int watcher, int watched) {
        x.subscribe(watcher, x.connection(watched, 1), 4);
        x.subscribe(watched, x.connection(watcher, 1), 5);
        drain(x, watcher);
        drain(x, watched);
    }

    static void finish() {
        System.out.println(wrong == 0 ? "all answers are as due" : wrong + " answers are not as due");
        if (wrong != 0) {
            System.exit(1);
        }
    }
}
