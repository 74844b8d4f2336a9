/** Promise 8. */
final class GoneTest {
    public static void main(String[] args) {
        XmppPair x = Check.withAccounts();
        for (int bad : Check.NO_CONNECTIONS) {
            Check.badArgument("gone(" + bad + ")", () -> x.gone(bad));
        }
        Check.badState("gone when CLOSED", () -> x.gone(0));
        Check.toBound(x, 0, 0, 2);
        Check.badState("gone when BOUND alone", () -> x.gone(0));
        x.here(0, 3);
        Check.online(x, 1, 1, 0, -3);
        Check.online(x, 2, 4, 0, 0);
        Check.online(x, 3, 5, 0, 0);
        Check.befriend(x, 1, 0);
        Check.befriend(x, 2, 0);
        x.message(1, 0, -1, 5);
        Check.answers("gone", 1, () -> x.gone(0));
        Check.answers("available", 0, () -> x.connection(0, 3));
        Check.answers("stage", 4, () -> x.connection(0, 0));
        Check.answers("stanzas", 1, () -> x.connection(0, 4));
        Check.badState("gone again", () -> x.gone(0));
        Check.inbox(x, 1, "3/0/2/0");
        Check.inbox(x, 2, "3/0/2/0");
        Check.inbox(x, 3, "");
        Check.inbox(x, 0, "1/1/0/5");
        waitsForTheLink(x);
        Check.finish();
    }

    private static void waitsForTheLink(XmppPair x) {
        x.here(0, 1);
        Check.drain(x, 2);
        x.link(false);
        x.gone(0);
        Check.answers("waiting", 1, () -> x.count(1));
        Check.inbox(x, 2, "");
        x.link(true);
        Check.inbox(x, 2, "3/0/2/0");
    }
}
