/** Promise 3. */
final class ConnectTest {
    public static void main(String[] args) {
        XmppPair x = Check.withAccounts();
        for (int bad : Check.NO_CONNECTIONS) {
            Check.badArgument("connect(" + bad + ")", () -> x.connect(bad));
        }
        for (int c = 0; c < 6; c++) {
            int connection = c;
            Check.answers("connect(" + c + ")", 1, () -> x.connect(connection));
            Check.answers("its stage", 1, () -> x.connection(connection, 0));
            Check.answers("its account", -1, () -> x.connection(connection, 1));
            Check.badState("connect(" + c + ") again", () -> x.connect(connection));
        }
        refusedInEveryStage();
        inboxIsEmptied();
        Check.finish();
    }

    private static void refusedInEveryStage() {
        XmppPair x = Check.withAccounts();
        x.connect(0);
        int challenge = x.login(0, 0);
        Check.badState("connect when CHALLENGED", () -> x.connect(0));
        x.prove(0, Check.proofFor(Check.PASSWORD, challenge));
        Check.badState("connect when KNOWN", () -> x.connect(0));
        x.bind(0, 0);
        Check.badState("connect when BOUND", () -> x.connect(0));
        x.here(0, 0);
        Check.badState("connect when AVAILABLE", () -> x.connect(0));
    }

    private static void inboxIsEmptied() {
        XmppPair x = Check.withAccounts();
        Check.online(x, 0, 0, 0, 0);
        x.message(0, 0, 0, 5);
        x.message(0, 0, 0, 6);
        x.close(0);
        x.connect(0);
        Check.answers("stanzas behind connect", 0, () -> x.connection(0, 4));
        Check.noElement("take behind connect", () -> x.take(0));
    }
}
