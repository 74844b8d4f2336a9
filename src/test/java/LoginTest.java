/** Promise 4. */
final class LoginTest {
    public static void main(String[] args) {
        XmppPair x = Check.withAccounts();
        Check.badState("login when CLOSED", () -> x.login(0, 0));
        x.connect(0);
        for (int bad : Check.NO_CONNECTIONS) {
            Check.badArgument("login(" + bad + ", 0)", () -> x.login(bad, 0));
        }
        for (int bad : Check.NO_ACCOUNTS) {
            Check.badArgument("login(0, " + bad + ")", () -> x.login(0, bad));
            Check.badArgument("login(1, " + bad + ") when CLOSED", () -> x.login(1, bad));
        }
        Check.answers("the first challenge", 4242, () -> x.login(0, 7));
        Check.answers("stage", 2, () -> x.connection(0, 0));
        Check.answers("account", 7, () -> x.connection(0, 1));
        Check.answers("resource", -1, () -> x.connection(0, 2));
        Check.badState("login when CHALLENGED", () -> x.login(0, 7));
        x.prove(0, Check.proofFor(Check.PASSWORD, 4242));
        Check.badState("login when KNOWN", () -> x.login(0, 7));
        x.bind(0, 0);
        Check.badState("login when BOUND", () -> x.login(0, 7));
        x.connect(1);
        Check.answers("the second challenge", 2161, () -> x.login(1, 0));
        everyChallenge();
        Check.finish();
    }

    private static void everyChallenge() {
        XmppPair x = new XmppPair();
        for (int before = 0; before < 170; before++) {
            int due = (7919 * before + 4242) % 10000;
            x.connect(3);
            Check.answers("challenge " + before + ", of an account that is not registered", due, () -> x.login(3, 4));
            x.close(3);
        }
    }
}
