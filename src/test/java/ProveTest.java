/** Promise 5. */
final class ProveTest {
    public static void main(String[] args) {
        ordinary();
        wrongProofs();
        notRegistered();
        registeredInBetween();
        theGreatestPassword();
        proofsAtTheEdges();
        Check.finish();
    }

    private static void ordinary() {
        XmppPair x = Check.withAccounts();
        for (int bad : Check.NO_CONNECTIONS) {
            Check.badArgument("prove(" + bad + ", 0)", () -> x.prove(bad, 0));
        }
        Check.badState("prove when CLOSED", () -> x.prove(0, 0));
        x.connect(0);
        Check.badState("prove when OPEN", () -> x.prove(0, 0));
        int challenge = x.login(0, 5);
        Check.answers("prove", 1, () -> x.prove(0, Check.proofFor(Check.PASSWORD, challenge)));
        Check.answers("stage", 3, () -> x.connection(0, 0));
        Check.answers("account", 5, () -> x.connection(0, 1));
        Check.badState("prove when KNOWN", () -> x.prove(0, Check.proofFor(Check.PASSWORD, challenge)));
        x.bind(0, 0);
        Check.badState("prove when BOUND", () -> x.prove(0, 0));
    }

    private static void fails(XmppPair x, String what, int proof) {
        try {
            x.prove(0, proof);
            Check.same(what, "no throw", "UnsupportedOperationException");
        } catch (RuntimeException e) {
            Check.same(what, e.getClass().getSimpleName(), "UnsupportedOperationException");
        }
        Check.answers("stage behind " + what, 1, () -> x.connection(0, 0));
        Check.answers("account behind " + what, -1, () -> x.connection(0, 1));
        Check.badState("prove again behind " + what, () -> x.prove(0, proof));
    }

    private static void wrongProofs() {
        XmppPair x = Check.withAccounts();
        x.connect(0);
        fails(x, "a proof that is 1 too great", Check.proofFor(Check.PASSWORD, x.login(0, 0)) + 1);
        fails(x, "a proof that is 10007 too great", Check.proofFor(Check.PASSWORD, x.login(0, 0)) + 10007);
        fails(x, "a proof that is 10007 too small", Check.proofFor(Check.PASSWORD, x.login(0, 0)) - 10007);
        int challenge = x.login(0, 0);
        fails(x, "the least proof", Integer.MIN_VALUE);
        x.login(0, 0);
        fails(x, "the proof of an earlier challenge", Check.proofFor(Check.PASSWORD, challenge));
        int last = x.login(0, 0);
        Check.answers("prove at last", 1, () -> x.prove(0, Check.proofFor(Check.PASSWORD, last)));
    }

    private static void notRegistered() {
        XmppPair x = new XmppPair();
        x.connect(0);
        fails(x, "the proof of password 0 of no account", x.login(0, 6));
    }

    private static void registeredInBetween() {
        XmppPair x = new XmppPair();
        x.connect(0);
        int challenge = x.login(0, 6);
        x.register(6, 8);
        Check.answers("prove", 1, () -> x.prove(0, Check.proofFor(8, challenge)));
    }

    private static void theGreatestPassword() {
        XmppPair x = new XmppPair();
        x.register(0, 9999);
        x.connect(0);
        x.login(0, 0);
        Check.answers("prove 9999 * 31 + 4242", 1, () -> x.prove(0, 3994));
    }

    /** The proof begins anew behind 10006: the last one, 0 and 1, and the sums themselves, which are none. */
    private static void proofsAtTheEdges() {
        atTheEdge(0, 0, 4242, 4242);
        atTheEdge(186, 0, 1, 10008);
        atTheEdge(199, 5, 10006, 10006);
        atTheEdge(1800, 0, 0, 60042);
        atTheEdge(3414, 0, 10006, 110076);
    }

    private static void atTheEdge(int password, int challengesBefore, int proof, int sum) {
        int challenge = (7919 * challengesBefore + 4242) % 10000;
        Check.same("the sum", password * 31 + challenge, sum);
        XmppPair x = challenged(password, challengesBefore);
        Check.answers("prove(0, " + proof + ") of password " + password, 1, () -> x.prove(0, proof));
        for (int wrong : new int[] {proof - 1, proof + 1, proof + 10007, proof - 10007}) {
            fails(challenged(password, challengesBefore), "prove(0, " + wrong + ") of password " + password, wrong);
        }
    }

    private static XmppPair challenged(int password, int challengesBefore) {
        XmppPair x = new XmppPair();
        x.register(7, password);
        x.connect(0);
        for (int i = 0; i < challengesBefore; i++) {
            x.login(0, 0);
            fails(x, "a proof of no account", 0);
        }
        x.login(0, 7);
        return x;
    }
}
