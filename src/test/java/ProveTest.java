/** Promise 5. */
final class ProveTest {
    public static void main(String[] args) {
        ordinary();
        wrongProofs();
        notRegistered();
        registeredInBetween();
        theGreatestPassword();
        Check.finish();
    }

    private static void ordinary() {
        XmppPair x = Check.withAccounts();
        for (int bad : Check.NO_CONNECTIONS) {
            Check.badArgument("prove(" + bad + ", 0)", () -> x.prove(bad, 0));
        }
        Check.badState("prove when CLOSED", () -> x.prove(0, 0));
        x.connect(0);
        Check.badState("prove when OPEN", () -> x.prove(0, 0));
        int challenge = x.login(0, 5);
        Check.answers("prove", 1, () -> x.prove(0, Check.proofFor(Check.PASSWORD, challenge)));
        Check.answers("stage", 3, () -> x.connection(0, 0));
        Check.answers("account", 5, () -> x.connection(0, 1));
        Check.badState("prove when KNOWN", () -> x.prove(0, Check.proofFor(Check.PASSWORD, challenge)));
        x.bind(0, 0);
        Check.badState("prove when BOUND", () -> x.prove(0, 0));
    }

    private static void fails(XmppPair x, String what, int proof) {
        try {
            x.prove(0, proof);
            Check.same(what, "no throw", "UnsupportedOperationException");
        } catch (RuntimeException e) {
            Check.same(what, e.getClass().getSimpleName(), "UnsupportedOperationException");
        }
        Check.answers("stage behind " + what, 1, () -> x.connection(0, 0));
        Check.answers("account behind " + what, -1, () -> x.connection(0, 1));
        Check.badState("prove again behind " + what, () -> x.prove(0, proof));
    }

    private static void wrongProofs() {
        XmppPair x = Check.withAccounts();
        x.connect(0);
        fails(x, "a proof that is 1 too great", Check.proofFor(Check.PASSWORD, x.login(0, 0)) + 1);
        fails(x, "a proof that is 10007 too great", Check.proofFor(Check.PASSWORD, x.login(0, 0)) + 10007);
        fails(x, "a proof that is 10007 too small", Check.proofFor(Check.PASSWORD, x.login(0, 0)) - 10007);
        int challenge = x.login(0, 0);
        fails(x, "the least proof", Integer.MIN_VALUE);
        x.login(0, 0);
        fails(x, "the proof of an earlier challenge", Check.proofFor(Check.PASSWORD, challenge));
        int last = x.login(0, 0);
        Check.answers("prove at last", 1, () -> x.prove(0, Check.proofFor(Check.PASSWORD, last)));
    }

    private static void notRegistered() {
        XmppPair x = new XmppPair();
        x.connect(0);
        fails(x, "the proof of password 0 of no account", x.login(0, 6));
    }

    private static void registeredInBetween() {
        XmppPair x = new XmppPair();
        x.connect(0);
        int challenge = x.login(0, 6);
        x.register(6, 8);
        Check.answers("prove", 1, () -> x.prove(0, Check.proofFor(8, challenge)));
    }

    private static void theGreatestPassword() {
        XmppPair x = new XmppPair();
        x.register(0, 9999);
        x.connect(0);
        x.login(0, 0);
        Check.answers("prove 9999 * 31 + 4242", 1, () -> x.prove(0, 3994));
    }
}
