/** Promise 6. */
final class BindTest {
    public static void main(String[] args) {
        ordinary();
        anotherIsClosed();
        closedAsByClose();
        everyTwoConnections();
        onlyTheOneThatIsBound();
        Check.finish();
    }

    private static void ordinary() {
        XmppPair x = Check.withAccounts();
        Check.badState("bind when CLOSED", () -> x.bind(0, 0));
        x.connect(0);
        Check.badState("bind when OPEN", () -> x.bind(0, 0));
        int challenge = x.login(0, 0);
        Check.badState("bind when CHALLENGED", () -> x.bind(0, 0));
        x.prove(0, Check.proofFor(Check.PASSWORD, challenge));
        for (int bad : Check.NO_CONNECTIONS) {
            Check.badArgument("bind(" + bad + ", 0)", () -> x.bind(bad, 0));
        }
        for (int bad : new int[] {-1, 3, Integer.MIN_VALUE, Integer.MAX_VALUE}) {
            Check.badArgument("bind(0, " + bad + ")", () -> x.bind(0, bad));
            Check.badArgument("bind(1, " + bad + ") when CLOSED", () -> x.bind(1, bad));
        }
        Check.answers("bind(0, 2)", 0, () -> x.bind(0, 2));
        Check.answers("stage", 4, () -> x.connection(0, 0));
        Check.answers("resource", 2, () -> x.connection(0, 2));
        Check.answers("available", 0, () -> x.connection(0, 3));
        Check.badState("bind when BOUND", () -> x.bind(0, 2));
        Check.toKnown(x, 1, 0);
        Check.answers("bind of another resource", 0, () -> x.bind(1, 0));
        Check.toKnown(x, 2, 1);
        Check.answers("bind of another account", 0, () -> x.bind(2, 2));
        Check.answers("the first is still BOUND", 4, () -> x.connection(0, 0));
        Check.answers("the second is still BOUND", 4, () -> x.connection(1, 0));
    }

    private static void anotherIsClosed() {
        XmppPair x = Check.withAccounts();
        Check.toBound(x, 4, 3, 1);
        Check.toKnown(x, 2, 3);
        Check.answers("bind", 1, () -> x.bind(2, 1));
        Check.answers("stage of the other", 0, () -> x.connection(4, 0));
        Check.answers("account of the other", -1, () -> x.connection(4, 1));
        Check.answers("resource of the other", -1, () -> x.connection(4, 2));
        Check.answers("stage", 4, () -> x.connection(2, 0));
        Check.toKnown(x, 5, 3);
        x.close(2);
        Check.answers("bind behind close", 0, () -> x.bind(5, 1));
    }

    private static void closedAsByClose() {
        XmppPair x = Check.withAccounts();
        Check.online(x, 0, 0, 0, 1);
        Check.online(x, 1, 1, 2, 3);
        Check.befriend(x, 0, 1);
        x.message(0, 1, -1, 5);
        Check.toKnown(x, 2, 1);
        Check.answers("bind", 1, () -> x.bind(2, 2));
        Check.inbox(x, 0, "3/1/2/0");
        Check.answers("stanzas", 0, () -> x.connection(2, 4));
        Check.answers("available of the other", 0, () -> x.connection(1, 3));
        Check.answers("available", 0, () -> x.connection(2, 3));
    }

    /** "No two that are BOUND have the same account and resource", whichever of them was first. */
    private static void everyTwoConnections() {
        for (int first = 0; first < 6; first++) {
            for (int second = 0; second < 6; second++) {
                if (first != second) {
                    replaces(first, second, (first + second) % 3);
                }
            }
        }
    }

    private static void replaces(int first, int second, int resource) {
        XmppPair x = Check.withAccounts();
        Check.toBound(x, first, 7, resource);
        Check.toKnown(x, second, 7);
        Check.answers("bind(" + second + ", " + resource + ")", 1, () -> x.bind(second, resource));
        Check.answers("stage of " + first, 0, () -> x.connection(first, 0));
        Check.answers("stage of " + second, 4, () -> x.connection(second, 0));
        Check.answers("resource of " + second, resource, () -> x.connection(second, 2));
        Check.toKnown(x, first, 7);
        Check.answers("bind(" + first + ", " + resource + ")", 1, () -> x.bind(first, resource));
        Check.answers("stage of " + second, 0, () -> x.connection(second, 0));
    }

    /** Of the same account: one KNOWN, two with the other resources; of another one: the same resource. */
    private static void onlyTheOneThatIsBound() {
        XmppPair x = Check.withAccounts();
        Check.toKnown(x, 0, 0);
        Check.online(x, 1, 0, 0, 0);
        Check.online(x, 2, 0, 2, 0);
        Check.online(x, 3, 7, 1, 0);
        Check.toBound(x, 4, 0, 1);
        Check.toKnown(x, 5, 0);
        x.message(3, 0, -1, 6);
        Check.answers("bind(5, 1)", 1, () -> x.bind(5, 1));
        int[] stages = {3, 4, 4, 4, 0, 4};
        for (int c = 0; c < 6; c++) {
            int connection = c;
            Check.answers("stage of " + c, stages[c], () -> x.connection(connection, 0));
        }
        Check.inbox(x, 1, "1/7/1/6");
        Check.inbox(x, 2, "1/7/1/6");
        Check.inbox(x, 5, "");
    }
}
