/** "An object is used for at most 512 calls": the last of them is answered as the first. */
final class LifetimeTest {
    private static final int CALLS = 512;

    public static void main(String[] args) {
        challengesToTheLastCall();
        messagesToTheLastCall();
        subscriptionsToTheLastCall();
        Check.finish();
    }

    /** A login and a wrong proof by turns: 255 challenges, the most that an object can give, and a look. */
    private static void challengesToTheLastCall() {
        XmppPair x = new XmppPair();
        x.connect(5);
        for (int before = 0; before < (CALLS - 2) / 2; before++) {
            int due = (7919 * before + 4242) % 10000;
            Check.answers("challenge " + before, due, () -> x.login(5, 7));
            Check.same("a wrong proof", Check.outcome(() -> x.prove(5, -1)), "UnsupportedOperationException");
        }
        Check.answers("call 512", 1, () -> x.connection(5, 0));
    }

    /** Each message goes to the three inboxes of an account, which lose all behind the 10th. */
    private static void messagesToTheLastCall() {
        XmppPair x = new XmppPair();
        x.register(0, Check.PASSWORD);
        x.register(1, Check.PASSWORD);
        for (int c = 0; c < 6; c++) {
            Check.online(x, c, c / 3, c % 3, 3);
        }
        int calls = 2 + 6 * 5;
        int sent = 0;
        while (calls < CALLS - 2) {
            x.message(0, sent % 2, -1, sent);
            sent++;
            calls++;
        }
        int lost = 3 * (sent - 20);
        Check.answers("call 511, lost", lost, () -> x.count(2));
        Check.answers("call 512, the first that came", 1, () -> x.take(5));
    }

    private static void subscriptionsToTheLastCall() {
        XmppPair x = new XmppPair();
        x.register(0, Check.PASSWORD);
        x.register(1, Check.PASSWORD);
        Check.online(x, 0, 0, 0, 0);
        Check.online(x, 1, 1, 0, 0);
        int calls = 2 + 2 * 5;
        while (calls + 4 < CALLS) {
            Check.answers("ASK", 1, () -> x.subscribe(0, 1, 4));
            Check.answers("GRANT", 1, () -> x.subscribe(1, 0, 5));
            Check.answers("LEAVE", 1, () -> x.subscribe(0, 1, 6));
            Check.answers("roster", 0, () -> x.roster(1, 0));
            calls += 4;
        }
        Check.answers("ASK", 1, () -> x.subscribe(0, 1, 4));
        Check.answers("GRANT", 1, () -> x.subscribe(1, 0, 5));
        Check.answers("DENY", 1, () -> x.subscribe(1, 0, 7));
        Check.answers("the last call", 0, () -> x.roster(0, 1));
    }
}
