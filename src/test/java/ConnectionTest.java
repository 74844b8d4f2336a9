/** Promise 16. */
final class ConnectionTest {
    public static void main(String[] args) {
        XmppPair x = Check.withAccounts();
        for (int bad : Check.NO_CONNECTIONS) {
            Check.badArgument("connection(" + bad + ", 0)", () -> x.connection(bad, 0));
        }
        for (int bad : new int[] {-1, 5, Integer.MIN_VALUE, Integer.MAX_VALUE}) {
            Check.badArgument("connection(0, " + bad + ")", () -> x.connection(0, bad));
        }
        tells(x, 0, -1, -1, 0, 0);
        x.connect(4);
        tells(x, 1, -1, -1, 0, 0);
        int challenge = x.login(4, 0);
        tells(x, 2, 0, -1, 0, 0);
        x.prove(4, Check.proofFor(Check.PASSWORD, challenge));
        tells(x, 3, 0, -1, 0, 0);
        x.bind(4, 0);
        tells(x, 4, 0, 0, 0, 0);
        x.here(4, -2);
        tells(x, 4, 0, 0, 1, 0);
        x.message(4, 0, 0, 1);
        tells(x, 4, 0, 0, 1, 1);
        x.gone(4);
        tells(x, 4, 0, 0, 0, 1);
        x.take(4);
        tells(x, 4, 0, 0, 0, 0);
        x.close(4);
        tells(x, 0, -1, -1, 0, 0);
        Check.finish();
    }

    private static void tells(XmppPair x, int... want) {
        for (int what = 0; what < 5; what++) {
            int asked = what;
            Check.answers("connection(4, " + what + ")", want[what], () -> x.connection(4, asked));
        }
    }
}
