/** Promise 12. */
final class LinkTest {
    public static void main(String[] args) {
        XmppPair x = Check.withAccounts();
        Check.answers("link(true) when up", 0, () -> x.link(true));
        Check.answers("link(false)", 0, () -> x.link(false));
        Check.answers("count(3)", 0, () -> x.count(3));
        Check.answers("link(false) again", 0, () -> x.link(false));
        Check.online(x, 0, 0, 0, 0);
        Check.online(x, 1, 4, 0, 0);
        x.message(0, 4, 0, 1);
        x.subscribe(0, 4, 4);
        x.message(0, 4, -1, 2);
        Check.answers("link(false) with three that wait", 0, () -> x.link(false));
        Check.answers("waiting", 3, () -> x.count(1));
        Check.answers("link(true)", 3, () -> x.link(true));
        Check.answers("waiting", 0, () -> x.count(1));
        Check.answers("count(3)", 1, () -> x.count(3));
        Check.inbox(x, 1, "1/0/0/1 4/0/-1/0 1/0/0/2");
        Check.answers("link(true) again", 0, () -> x.link(true));
        answersAreNotCounted();
        grantIsNotCounted();
        arrivesInTheStateThatIs();
        Check.finish();
    }

    /** The ERRORs that arriving messages bring do not wait, and so arrive by the message, not by the link. */
    private static void answersAreNotCounted() {
        XmppPair x = Check.withAccounts();
        Check.online(x, 0, 0, 0, 0);
        x.link(false);
        for (int i = 0; i < 6; i++) {
            x.message(0, 4, 0, i);
        }
        Check.answers("link(true)", 6, () -> x.link(true));
        Check.inbox(x, 0, "8/4/-1/4 8/4/-1/5");
        Check.answers("kept", 4, () -> x.count(8));
    }

    /** An ASK that waits and finds FROM, since the LEAVE before it was a 9th, brings a GRANT. */
    private static void grantIsNotCounted() {
        XmppPair x = Check.withAccounts();
        Check.online(x, 0, 0, 0, 0);
        Check.toBound(x, 1, 4, 0);
        Check.befriend(x, 0, 1);
        x.link(false);
        for (int i = 0; i < 8; i++) {
            x.message(1, 3, -1, i);
        }
        x.subscribe(0, 4, 6);
        Check.answers("link(true)", 8, () -> x.link(true));
        x.link(false);
        x.subscribe(0, 4, 4);
        Check.answers("link(true)", 1, () -> x.link(true));
        Check.inbox(x, 0, "5/4/-1/0");
        Check.marks(x, 0, 4, 1);
    }

    private static void arrivesInTheStateThatIs() {
        XmppPair x = Check.withAccounts();
        Check.online(x, 0, 0, 1, 0);
        Check.online(x, 1, 4, 0, 0);
        x.link(false);
        x.message(0, 4, 0, 5);
        x.close(0);
        x.close(1);
        Check.online(x, 2, 4, 2, 1);
        Check.answers("link(true)", 1, () -> x.link(true));
        Check.inbox(x, 2, "1/0/1/5");
        Check.inbox(x, 1, "");
    }
}
