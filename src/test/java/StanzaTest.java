/** The terms' sentence on what a stanza has: kind, account, resource (-1 for none) and value, for each kind. */
final class StanzaTest {
    public static void main(String[] args) {
        messageOfEachResource();
        messageOfEachBody();
        presenceOfEachResourceAndPriority();
        subscriptionKinds();
        errors();
        Check.finish();
    }

    private static void messageOfEachResource() {
        for (int resource = 0; resource < 3; resource++) {
            XmppPair x = Check.withAccounts();
            Check.toBound(x, 0, 7, resource);
            Check.online(x, 1, 0, 2 - resource, 0);
            x.message(0, 0, 2 - resource, 31);
            x.message(0, 0, -1, 32);
            Check.inbox(x, 1, "1/7/" + resource + "/31 1/7/" + resource + "/32");
        }
    }

    private static void messageOfEachBody() {
        XmppPair x = Check.withAccounts();
        Check.online(x, 0, 3, 2, 0);
        for (int body : new int[] {Integer.MIN_VALUE, -1, 0, 1, 9999, 10000, Integer.MAX_VALUE}) {
            Check.answers("message of " + body, 1, () -> x.message(0, 3, -1, body));
            Check.inbox(x, 0, "1/3/2/" + body);
        }
    }

    private static void presenceOfEachResourceAndPriority() {
        for (int resource = 0; resource < 3; resource++) {
            XmppPair x = Check.withAccounts();
            Check.online(x, 0, 0, 0, 0);
            Check.toBound(x, 1, 7, resource);
            Check.befriend(x, 0, 1);
            for (int priority = -3; priority <= 3; priority++) {
                x.here(1, priority);
                x.gone(0);
                x.here(0, 0);
                x.gone(1);
                String here = "2/7/" + resource + "/" + priority;
                Check.inbox(x, 0, here + " " + here + " 3/7/" + resource + "/0");
            }
        }
    }

    /** From one that is BOUND with a resource, which the stanza does not have. */
    private static void subscriptionKinds() {
        XmppPair x = Check.withAccounts();
        Check.toBound(x, 0, 4, 2);
        Check.online(x, 1, 1, 1, 3);
        x.subscribe(0, 1, 4);
        Check.inbox(x, 1, "4/4/-1/0");
        x.subscribe(0, 1, 6);
        Check.inbox(x, 1, "6/4/-1/0");
        x.subscribe(1, 4, 4);
        x.subscribe(0, 1, 5);
        Check.inbox(x, 1, "5/4/-1/0");
        x.subscribe(0, 1, 7);
        Check.inbox(x, 1, "7/4/-1/0");
    }

    /** "from the account that was written to", with the body and without a resource. */
    private static void errors() {
        XmppPair x = new XmppPair();
        x.register(2, Check.PASSWORD);
        Check.online(x, 0, 2, 1, 3);
        for (int body : new int[] {Integer.MIN_VALUE, -1, 0, Integer.MAX_VALUE}) {
            x.message(0, 6, 2, body);
            x.message(0, 3, 0, body);
            Check.inbox(x, 0, "8/6/-1/" + body + " 8/3/-1/" + body);
        }
    }
}
