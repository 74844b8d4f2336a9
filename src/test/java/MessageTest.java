/** Promise 10, and what the terms say of a MESSAGE and an ERROR. */
final class MessageTest {
    public static void main(String[] args) {
        wrongInputs();
        toAResource();
        byPriority();
        keptAndRefused();
        notRegistered();
        inboxLimit();
        betweenTheServers();
        waitingLimit();
        Check.finish();
    }

    private static void wrongInputs() {
        XmppPair x = Check.withAccounts();
        Check.badState("message when CLOSED", () -> x.message(0, 0, 0, 0));
        Check.toKnown(x, 0, 0);
        Check.badState("message when KNOWN", () -> x.message(0, 0, 0, 0));
        x.bind(0, 0);
        for (int bad : Check.NO_CONNECTIONS) {
            Check.badArgument("message(" + bad + ", 0, 0, 0)", () -> x.message(bad, 0, 0, 0));
        }
        for (int bad : Check.NO_ACCOUNTS) {
            Check.badArgument("message(0, " + bad + ", 0, 0)", () -> x.message(0, bad, 0, 0));
        }
        for (int bad : new int[] {-2, 3, Integer.MIN_VALUE, Integer.MAX_VALUE}) {
            Check.badArgument("message(0, 0, " + bad + ", 0)", () -> x.message(0, 0, bad, 0));
            Check.badArgument("message(1, 0, " + bad + ", 0) when CLOSED", () -> x.message(1, 0, bad, 0));
        }
    }

    private static void toAResource() {
        XmppPair x = Check.withAccounts();
        Check.toBound(x, 0, 0, 2);
        Check.online(x, 1, 1, 0, -3);
        Check.online(x, 2, 1, 1, 1);
        Check.toBound(x, 3, 1, 2);
        Check.online(x, 4, 2, 0, 3);
        Check.answers("to one with less than 0", 1, () -> x.message(0, 1, 0, Integer.MIN_VALUE));
        Check.inbox(x, 1, "1/0/2/-2147483648");
        Check.inbox(x, 2, "");
        Check.answers("to one that is not AVAILABLE", 1, () -> x.message(0, 1, 2, Integer.MAX_VALUE));
        Check.inbox(x, 1, "");
        Check.inbox(x, 2, "1/0/2/2147483647");
        Check.inbox(x, 3, "");
        Check.inbox(x, 4, "");
        x.close(3);
        Check.answers("to one that is not BOUND", 1, () -> x.message(0, 1, 2, 6));
        Check.inbox(x, 2, "1/0/2/6");
        Check.answers("to a resource of another account", 1, () -> x.message(0, 2, 0, 6));
        Check.inbox(x, 4, "1/0/2/6");
        Check.answers("to itself", 1, () -> x.message(2, 1, 1, 4));
        Check.inbox(x, 2, "1/1/1/4");
    }

    private static void byPriority() {
        XmppPair x = Check.withAccounts();
        Check.online(x, 0, 0, 0, 2);
        Check.online(x, 1, 0, 1, 3);
        Check.online(x, 2, 0, 2, 3);
        Check.toBound(x, 3, 1, 0);
        x.message(3, 0, -1, 1);
        Check.inbox(x, 0, "");
        Check.inbox(x, 1, "1/1/0/1");
        Check.inbox(x, 2, "1/1/0/1");
        x.here(1, 0);
        x.here(2, -1);
        x.here(0, 0);
        x.message(3, 0, -1, 2);
        Check.inbox(x, 0, "1/1/0/2");
        Check.inbox(x, 1, "1/1/0/2");
        Check.inbox(x, 2, "");
        x.gone(0);
        x.here(1, -1);
        x.message(3, 0, -1, 3);
        x.message(3, 0, 0, 4);
        Check.answers("kept, as all have less than 0", 2, () -> x.count(4));
        Check.inbox(x, 1, "");
    }

    private static void keptAndRefused() {
        XmppPair x = Check.withAccounts();
        Check.online(x, 0, 0, 0, 0);
        Check.online(x, 1, 0, 1, -2);
        Check.toBound(x, 2, 0, 2);
        for (int i = 0; i < 4; i++) {
            int body = i;
            Check.answers("message " + i, 1, () -> x.message(2, 5, -1, body));
        }
        Check.inbox(x, 0, "");
        Check.answers("a 5th", 1, () -> x.message(2, 5, 1, 44));
        Check.answers("kept", 4, () -> x.count(9));
        Check.inbox(x, 0, "8/5/-1/44");
        Check.inbox(x, 1, "8/5/-1/44");
        Check.inbox(x, 2, "");
        Check.answers("lost", 0, () -> x.count(2));
        Check.online(x, 3, 5, 0, 0);
        Check.inbox(x, 3, "1/0/2/0 1/0/2/1 1/0/2/2 1/0/2/3");
    }

    private static void notRegistered() {
        XmppPair x = new XmppPair();
        x.register(0, Check.PASSWORD);
        Check.online(x, 0, 0, 0, 0);
        x.message(0, 3, -1, 5);
        x.message(0, 7, 2, 6);
        Check.inbox(x, 0, "8/3/-1/5 8/7/-1/6");
        Check.answers("kept", 0, () -> x.count(0));
        x.link(false);
        x.message(0, 7, 2, 7);
        Check.answers("waiting", 1, () -> x.count(1));
        Check.inbox(x, 0, "");
        x.link(true);
        Check.inbox(x, 0, "8/7/-1/7");
        x.link(false);
        x.message(0, 7, 2, 8);
        x.register(7, 1);
        x.link(true);
        Check.inbox(x, 0, "");
        Check.answers("kept for one that was registered in between", 1, () -> x.count(11));
    }

    private static void inboxLimit() {
        XmppPair x = Check.withAccounts();
        Check.online(x, 0, 0, 0, 0);
        Check.online(x, 1, 1, 0, 0);
        for (int i = 0; i < 12; i++) {
            x.message(0, 1, 0, i);
        }
        Check.answers("stanzas", 10, () -> x.connection(1, 4));
        Check.answers("lost", 2, () -> x.count(2));
        Check.inbox(x, 0, "");
        x.take(1);
        x.message(0, 1, 0, 50);
        Check.inbox(x, 1, "1/0/0/1 1/0/0/2 1/0/0/3 1/0/0/4 1/0/0/5 1/0/0/6 1/0/0/7 1/0/0/8 1/0/0/9 1/0/0/50");
    }

    private static void betweenTheServers() {
        XmppPair x = Check.withAccounts();
        Check.online(x, 0, 3, 0, 0);
        Check.online(x, 1, 4, 0, 0);
        Check.online(x, 2, 0, 0, 0);
        Check.online(x, 3, 7, 0, 0);
        x.message(0, 4, 0, 1);
        Check.inbox(x, 1, "1/3/0/1");
        x.link(false);
        x.message(0, 4, 0, 2);
        x.message(1, 3, 0, 3);
        Check.inbox(x, 1, "");
        Check.inbox(x, 0, "");
        Check.answers("waiting", 2, () -> x.count(1));
        x.message(0, 0, 0, 4);
        x.message(1, 7, 0, 5);
        Check.inbox(x, 2, "1/3/0/4");
        Check.inbox(x, 3, "1/4/0/5");
        x.link(true);
        Check.inbox(x, 1, "1/3/0/2");
        Check.inbox(x, 0, "1/4/0/3");
    }

    private static void waitingLimit() {
        XmppPair x = Check.withAccounts();
        Check.online(x, 0, 0, 0, 0);
        Check.online(x, 1, 0, 1, -3);
        Check.online(x, 2, 4, 0, 0);
        x.link(false);
        for (int i = 0; i < 4; i++) {
            x.message(0, 4, 0, i);
            x.message(2, 0, 0, i);
        }
        Check.answers("waiting, both ways together", 8, () -> x.count(1));
        Check.answers("a 9th", 1, () -> x.message(0, 4, 0, 90));
        Check.answers("waiting", 8, () -> x.count(1));
        Check.inbox(x, 0, "8/4/-1/90");
        Check.inbox(x, 1, "8/4/-1/90");
        Check.inbox(x, 2, "");
        Check.answers("a 9th the other way", 1, () -> x.message(2, 0, 0, 91));
        Check.inbox(x, 2, "8/0/-1/91");
        Check.answers("a 9th that is an ASK", 1, () -> x.subscribe(0, 4, 4));
        Check.inbox(x, 0, "");
        Check.answers("lost", 0, () -> x.count(2));
        x.link(true);
        Check.inbox(x, 2, "1/0/0/0 1/0/0/1 1/0/0/2 1/0/0/3");
        Check.marks(x, 0, 4, 4);
        Check.marks(x, 4, 0, 0);
    }
}
