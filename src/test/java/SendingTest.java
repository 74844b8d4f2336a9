import java.util.function.Consumer;
import java.util.function.ToIntFunction;

/**
 * The terms' paragraph on SENDING: which accounts are on one server, what arrives at once, and the
 * row of those that wait for the link: empty, with 8, and with a 9th of every kind.
 */
final class SendingTest {
    private static final int ASK = 4;
    private static final int GRANT = 5;
    private static final int LEAVE = 6;
    private static final int DENY = 7;
    private static final int ROOM = 8;

    public static void main(String[] args) {
        theServers();
        atOnceWhileUp();
        aMessage();
        aHere();
        aGone();
        anAsk();
        aGrant();
        aLeave();
        aDeny();
        presencesOfGrant();
        presencesOfDeny();
        errorsOfANinth();
        noneGetsTheError();
        bothWaysTogether();
        oneServerNeedsNoRoom();
        inOrder();
        roomAgain();
        Check.finish();
    }

    /** "0 to 3 are on server 0, 4 to 7 on server 1", for each two accounts. */
    private static void theServers() {
        for (int from = 0; from < 8; from++) {
            for (int to = 0; to < 8; to++) {
                XmppPair x = Check.withAccounts();
                Check.toBound(x, 0, from, 0);
                x.link(false);
                int account = to;
                String what = "from " + from + " to " + to;
                boolean oneServer = (from <= 3) == (to <= 3);
                Check.answers(what, 1, () -> x.message(0, account, -1, 5));
                Check.answers("waiting " + what, oneServer ? 0 : 1, () -> x.count(1));
                Check.answers("kept " + what, oneServer ? 1 : 0, () -> x.count(4 + account));
            }
        }
    }

    private static void atOnceWhileUp() {
        XmppPair x = Check.withAccounts();
        Check.toBound(x, 0, 3, 0);
        Check.toBound(x, 1, 4, 0);
        x.message(0, 4, -1, 1);
        x.message(1, 3, -1, 2);
        Check.answers("kept for 4", 1, () -> x.count(8));
        Check.answers("kept for 3", 1, () -> x.count(7));
        Check.answers("waiting", 0, () -> x.count(1));
    }

    /**
     * Connection 0 is AVAILABLE for account 0 and connection 1 for account 4; messages of account 3,
     * which no AVAILABLE connection could get an ERROR for, to account 7 wait for the link.
     */
    private static XmppPair waiting(int stanzas, Consumer<XmppPair> before) {
        XmppPair x = Check.withAccounts();
        Check.online(x, 0, 0, 1, 1);
        Check.online(x, 1, 4, 2, 0);
        Check.toBound(x, 2, 3, 0);
        before.accept(x);
        Check.drain(x, 0);
        Check.drain(x, 1);
        x.link(false);
        for (int body = 0; body < stanzas; body++) {
            x.message(2, 7, -1, body);
        }
        return x;
    }

    private static String marks(XmppPair x) {
        return x.roster(0, 4) + "," + x.roster(4, 0);
    }

    private static void nothing(XmppPair x) {
    }

    /** marks: of account 0 for 4 and of account 4 for 0; behind the 8th's arriving, and behind the 9th. */
    private static void eighthAndNinth(String what, Consumer<XmppPair> before, ToIntFunction<XmppPair> way,
            int answer, String stanza, String error, String marksEighth, String marksNinth) {
        XmppPair one = waiting(ROOM - 1, before);
        Check.answers(what + " as the 8th", answer, () -> way.applyAsInt(one));
        Check.answers(what + " as the 8th: waiting", ROOM, () -> one.count(1));
        Check.inbox(one, 1, "");
        Check.inbox(one, 0, "");
        Check.answers(what + " as the 8th: link", ROOM, () -> one.link(true));
        Check.inbox(one, 1, stanza);
        Check.same(what + " as the 8th: the marks", marks(one), marksEighth);

        XmppPair two = waiting(ROOM, before);
        Check.answers(what + " as the 9th", answer, () -> way.applyAsInt(two));
        Check.answers(what + " as the 9th: waiting", ROOM, () -> two.count(1));
        Check.inbox(two, 0, error);
        Check.answers(what + " as the 9th: link", ROOM, () -> two.link(true));
        Check.inbox(two, 1, "");
        Check.inbox(two, 0, "");
        Check.same(what + " as the 9th: the marks", marks(two), marksNinth);
        Check.answers(what + " as the 9th: no inbox lost it", 0, () -> two.count(2));
        Check.answers(what + " as the 9th: kept for 7", 4, () -> two.count(11));
    }

    private static void aMessage() {
        eighthAndNinth("a MESSAGE", SendingTest::nothing, x -> x.message(0, 4, -1, 99), 1,
                "1/0/1/99", "8/4/-1/99", "0,0", "0,0");
    }

    private static void watch(XmppPair x, int watcher, int watched) {
        Check.befriend(x, watcher, watched);
    }

    private static void aHere() {
        eighthAndNinth("a HERE", x -> watch(x, 1, 0), x -> x.here(0, -2), 0, "2/0/1/-2", "", "2,1", "2,1");
    }

    private static void aGone() {
        eighthAndNinth("a GONE", x -> watch(x, 1, 0), x -> x.gone(0), 1, "3/0/1/0", "", "2,1", "2,1");
    }

    private static void anAsk() {
        eighthAndNinth("an ASK", SendingTest::nothing, x -> x.subscribe(0, 4, ASK), 1,
                "4/0/-1/0", "", "4,8", "4,0");
    }

    private static void aGrant() {
        Consumer<XmppPair> before = x -> {
            x.subscribe(1, 0, ASK);
            x.gone(0);
        };
        eighthAndNinth("a GRANT", before, x -> x.subscribe(0, 4, GRANT), 1, "5/0/-1/0", "", "2,1", "2,4");
    }

    private static void aLeave() {
        eighthAndNinth("a LEAVE", x -> watch(x, 0, 1), x -> x.subscribe(0, 4, LEAVE), 1,
                "6/0/-1/0", "", "0,0", "0,2");
    }

    private static void aDeny() {
        eighthAndNinth("a DENY", x -> x.subscribe(1, 0, ASK), x -> x.subscribe(0, 4, DENY), 1,
                "7/0/-1/0", "", "0,0", "0,4");
    }

    /** The GRANT has the last place, the HERE behind it none. */
    private static void presencesOfGrant() {
        XmppPair x = waiting(ROOM - 1, y -> y.subscribe(1, 0, ASK));
        Check.answers("GRANT", 1, () -> x.subscribe(0, 4, GRANT));
        Check.answers("waiting", ROOM, () -> x.count(1));
        x.link(true);
        Check.inbox(x, 1, "5/0/-1/0");
        Check.inbox(x, 0, "");
    }

    /** The GONE goes first and has the last place, the DENY behind it none. */
    private static void presencesOfDeny() {
        XmppPair x = waiting(ROOM - 1, y -> watch(y, 1, 0));
        Check.answers("DENY", 1, () -> x.subscribe(0, 4, DENY));
        Check.same("the marks", marks(x), "0,1");
        x.link(true);
        Check.inbox(x, 1, "3/0/1/0");
        Check.same("the marks", marks(x), "0,1");
    }

    /** "its account's AVAILABLE connections get an ERROR": all of them, whatever their priority, and no other. */
    private static void errorsOfANinth() {
        XmppPair x = waiting(ROOM, SendingTest::nothing);
        Check.online(x, 3, 0, 0, -3);
        Check.toBound(x, 4, 0, 2);
        Check.online(x, 5, 1, 0, 3);
        Check.answers("a 9th of one that is not AVAILABLE", 1, () -> x.message(4, 5, 1, Integer.MIN_VALUE));
        Check.inbox(x, 0, "8/5/-1/-2147483648");
        Check.inbox(x, 3, "8/5/-1/-2147483648");
        for (int other : new int[] {1, 2, 4, 5}) {
            Check.inbox(x, other, "");
        }
        Check.answers("a 10th", 1, () -> x.message(5, 6, -1, Integer.MAX_VALUE));
        Check.inbox(x, 5, "8/6/-1/2147483647");
        Check.inbox(x, 0, "");
        Check.answers("waiting", ROOM, () -> x.count(1));
    }

    private static void noneGetsTheError() {
        XmppPair x = waiting(ROOM, SendingTest::nothing);
        Check.answers("a 9th of an account without AVAILABLE connections", 1, () -> x.message(2, 4, -1, 5));
        for (int c = 0; c < 6; c++) {
            Check.inbox(x, c, "");
        }
        Check.answers("lost", 0, () -> x.count(2));
    }

    private static void bothWaysTogether() {
        XmppPair x = waiting(ROOM - 1, SendingTest::nothing);
        x.message(1, 0, -1, 40);
        Check.answers("waiting", ROOM, () -> x.count(1));
        x.message(1, 0, -1, 41);
        Check.inbox(x, 1, "8/0/-1/41");
        x.message(0, 4, -1, 42);
        Check.inbox(x, 0, "8/4/-1/42");
        Check.answers("link", ROOM, () -> x.link(true));
        Check.inbox(x, 0, "1/4/2/40");
        Check.inbox(x, 1, "");
    }

    private static void oneServerNeedsNoRoom() {
        XmppPair x = waiting(ROOM, SendingTest::nothing);
        x.message(2, 0, -1, 50);
        Check.inbox(x, 0, "1/3/0/50");
        x.message(1, 5, -1, 51);
        Check.answers("kept for 5", 1, () -> x.count(9));
        Check.answers("waiting", ROOM, () -> x.count(1));
    }

    private static void inOrder() {
        XmppPair x = waiting(0, y -> watch(y, 1, 0));
        Check.answers("none waits", 0, () -> x.count(1));
        x.message(0, 4, -1, 1);
        x.gone(0);
        x.subscribe(0, 4, ASK);
        x.here(0, 3);
        x.message(0, 4, 2, 2);
        x.subscribe(0, 4, LEAVE);
        x.subscribe(0, 4, DENY);
        Check.answers("waiting", ROOM, () -> x.count(1));
        Check.inbox(x, 1, "");
        Check.answers("link", ROOM, () -> x.link(true));
        Check.inbox(x, 1, "1/0/1/1 3/0/1/0 4/0/-1/0 2/0/1/3 1/0/1/2 6/0/-1/0 3/0/1/0 7/0/-1/0");
    }

    private static void roomAgain() {
        XmppPair x = waiting(ROOM, SendingTest::nothing);
        Check.answers("link", ROOM, () -> x.link(true));
        Check.answers("waiting", 0, () -> x.count(1));
        Check.answers("link again", 0, () -> x.link(true));
        x.link(false);
        for (int body = 0; body < ROOM; body++) {
            x.message(0, 4, -1, body);
        }
        Check.answers("waiting", ROOM, () -> x.count(1));
        Check.inbox(x, 0, "");
        Check.answers("link", ROOM, () -> x.link(true));
        Check.inbox(x, 1, "1/0/1/0 1/0/1/1 1/0/1/2 1/0/1/3 1/0/1/4 1/0/1/5 1/0/1/6 1/0/1/7");
    }
}
