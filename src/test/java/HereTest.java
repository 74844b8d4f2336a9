/** Promise 7. */
final class HereTest {
    public static void main(String[] args) {
        wrongInputs();
        ordinary();
        watchersInOrder();
        othersAreShown();
        othersBehindTheLink();
        keptIsHandedOver();
        keptIsLostBeyondTheInbox();
        everyWatcher();
        everyPriority();
        Check.finish();
    }

    private static void wrongInputs() {
        XmppPair x = Check.withAccounts();
        Check.badState("here when CLOSED", () -> x.here(0, 0));
        Check.toKnown(x, 0, 0);
        Check.badState("here when KNOWN", () -> x.here(0, 0));
        x.bind(0, 0);
        for (int bad : Check.NO_CONNECTIONS) {
            Check.badArgument("here(" + bad + ", 0)", () -> x.here(bad, 0));
        }
        for (int bad : new int[] {-4, 4, Integer.MIN_VALUE, Integer.MAX_VALUE}) {
            Check.badArgument("here(0, " + bad + ")", () -> x.here(0, bad));
            Check.badArgument("here(1, " + bad + ") when CLOSED", () -> x.here(1, bad));
        }
    }

    private static void ordinary() {
        XmppPair x = Check.withAccounts();
        Check.toBound(x, 0, 0, 0);
        Check.answers("here(0, -3)", 0, () -> x.here(0, -3));
        Check.answers("available", 1, () -> x.connection(0, 3));
        Check.answers("here(0, 3)", 0, () -> x.here(0, 3));
        Check.online(x, 1, 0, 1, 2);
        x.message(1, 0, -1, 9);
        Check.answers("stanzas of 0, whose priority is the greater one", 1, () -> x.connection(0, 4));
        Check.answers("here(0, 1)", 1, () -> x.here(0, 1));
        x.message(1, 0, -1, 9);
        Check.answers("stanzas of 1, whose priority is the greater one", 1, () -> x.connection(1, 4));
        Check.inbox(x, 0, "1/0/1/9");
    }

    private static void watchersInOrder() {
        XmppPair x = Check.withAccounts();
        Check.online(x, 0, 2, 1, 0);
        Check.online(x, 1, 6, 0, 0);
        Check.online(x, 2, 5, 0, -1);
        Check.online(x, 3, 0, 0, 0);
        Check.befriend(x, 1, 0);
        Check.befriend(x, 2, 0);
        x.here(0, 2);
        Check.inbox(x, 1, "2/2/1/2");
        Check.inbox(x, 2, "2/2/1/2");
        Check.inbox(x, 3, "");
        Check.inbox(x, 0, "");
        orderShowsAtTheLimit(x);
    }

    /** With one place left of those that wait, the least account alone gets its HERE. */
    private static void orderShowsAtTheLimit(XmppPair x) {
        x.link(false);
        for (int i = 0; i < 7; i++) {
            x.message(3, 4, -1, i);
        }
        x.here(0, 3);
        x.link(true);
        Check.inbox(x, 2, "2/2/1/3");
        Check.inbox(x, 1, "");
    }

    private static void othersAreShown() {
        XmppPair x = Check.withAccounts();
        Check.online(x, 0, 3, 0, 0);
        Check.online(x, 1, 2, 2, 3);
        Check.online(x, 2, 2, 0, -2);
        Check.online(x, 3, 1, 1, 1);
        Check.toBound(x, 4, 2, 1);
        Check.befriend(x, 0, 1);
        Check.befriend(x, 0, 3);
        x.gone(0);
        Check.answers("here", 3, () -> x.here(0, 0));
        Check.inbox(x, 0, "2/1/1/1 2/2/2/3 2/2/0/-2");
        Check.answers("here again", 0, () -> x.here(0, 1));
        Check.online(x, 5, 3, 1, -3);
        Check.inbox(x, 5, "2/1/1/1 2/2/2/3 2/2/0/-2");
    }

    private static void othersBehindTheLink() {
        XmppPair x = Check.withAccounts();
        Check.online(x, 0, 3, 0, 0);
        Check.online(x, 1, 2, 0, 1);
        Check.online(x, 2, 4, 0, 2);
        Check.befriend(x, 0, 1);
        Check.befriend(x, 0, 2);
        x.gone(0);
        x.link(false);
        Check.answers("here while the link is down", 1, () -> x.here(0, 0));
        Check.inbox(x, 0, "2/2/0/1");
        x.gone(0);
        x.link(true);
        Check.answers("here while the link is up", 2, () -> x.here(0, 0));
        Check.inbox(x, 0, "2/2/0/1 2/4/0/2");
    }

    private static void keptIsHandedOver() {
        XmppPair x = Check.withAccounts();
        Check.online(x, 0, 0, 2, 0);
        Check.online(x, 1, 1, 0, 0);
        Check.befriend(x, 1, 0);
        x.gone(1);
        x.message(0, 1, 0, 11);
        x.message(0, 1, -1, 12);
        Check.answers("here with less than 0", 1, () -> x.here(1, -1));
        Check.answers("kept", 2, () -> x.count(5));
        Check.answers("here of one that was AVAILABLE", 1, () -> x.here(1, 3));
        Check.answers("kept", 2, () -> x.count(5));
        x.gone(1);
        Check.answers("here with 0", 4, () -> x.here(1, 0));
        Check.answers("kept no more", 0, () -> x.count(5));
        Check.inbox(x, 1, "2/0/2/0 2/0/2/0 1/0/2/11 1/0/2/12");
        x.gone(1);
        Check.answers("here when nothing is kept", 1, () -> x.here(1, 0));
    }

    private static void keptIsLostBeyondTheInbox() {
        XmppPair x = Check.withAccounts();
        Check.online(x, 0, 0, 0, 0);
        Check.online(x, 1, 1, 0, 0);
        for (int i = 0; i < 8; i++) {
            x.message(0, 1, 0, i);
        }
        x.gone(1);
        for (int i = 8; i < 12; i++) {
            x.message(0, 1, 0, i);
        }
        Check.answers("here", 10, () -> x.here(1, 0));
        Check.answers("kept", 0, () -> x.count(0));
        Check.answers("lost", 2, () -> x.count(2));
        for (int i = 0; i < 10; i++) {
            x.take(1);
            int body = i;
            Check.answers("body " + i, body, () -> x.taken(2));
        }
    }

    /** Account 3 has FROM for all seven others; each of them gets HERE, and GONE by gone and by close. */
    private static void everyWatcher() {
        for (int watcher = 0; watcher < 8; watcher++) {
            if (watcher != 3) {
                XmppPair x = Check.withAccounts();
                Check.toBound(x, 0, 3, 1);
                allAsk(x);
                Check.online(x, 1, watcher, 0, 0);
                Check.drain(x, 1);
                x.here(0, 2);
                Check.inbox(x, 1, "2/3/1/2");
                x.gone(0);
                Check.inbox(x, 1, "3/3/1/0");
                x.here(0, -3);
                x.close(0);
                Check.inbox(x, 1, "2/3/1/-3 3/3/1/0");
            }
        }
        XmppPair x = Check.withAccounts();
        Check.toBound(x, 0, 3, 1);
        allAsk(x);
        x.link(false);
        x.here(0, 0);
        Check.answers("waiting, one for each account of the other server", 4, () -> x.count(1));
        x.close(0);
        Check.answers("waiting", 8, () -> x.count(1));
        Check.answers("link", 8, () -> x.link(true));
    }

    private static void allAsk(XmppPair x) {
        for (int asking = 0; asking < 8; asking++) {
            if (asking != 3) {
                Check.toBound(x, 5, asking, 0);
                x.subscribe(5, 3, 4);
                x.subscribe(0, asking, 5);
                x.close(5);
            }
        }
    }

    /** -3 .. 3: with less than 0 what was KEPT stays kept, with 0 or more it is handed over. */
    private static void everyPriority() {
        for (int priority = -3; priority <= 3; priority++) {
            XmppPair x = Check.withAccounts();
            Check.toBound(x, 0, 0, 0);
            x.message(0, 0, -1, 8);
            int here = priority;
            Check.answers("here(0, " + here + ")", here < 0 ? 0 : 1, () -> x.here(0, here));
            Check.answers("kept", here < 0 ? 1 : 0, () -> x.count(4));
            Check.answers("available", 1, () -> x.connection(0, 3));
        }
    }
}
