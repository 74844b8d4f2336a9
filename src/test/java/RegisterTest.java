/** Promise 2. */
final class RegisterTest {
    public static void main(String[] args) {
        XmppPair x = new XmppPair();
        for (int bad : Check.NO_ACCOUNTS) {
            Check.badArgument("register(" + bad + ", 0)", () -> x.register(bad, 0));
        }
        for (int bad : new int[] {-1, 10000, Integer.MIN_VALUE, Integer.MAX_VALUE}) {
            Check.badArgument("register(0, " + bad + ")", () -> x.register(0, bad));
        }
        for (int account = 0; account < 8; account++) {
            int each = account;
            Check.answers("register(" + account + ", ..)", 1, () -> x.register(each, each % 2 == 0 ? 0 : 9999));
            Check.badState("register(" + account + ", 5) again", () -> x.register(each, 5));
        }
        Check.badArgument("register of a registered account with a wrong password", () -> x.register(0, -1));

        x.connect(0);
        int challenge = x.login(0, 1);
        Check.answers("prove by the first password", 1, () -> x.prove(0, Check.proofFor(9999, challenge)));
        x.connect(1);
        int other = x.login(1, 2);
        Check.answers("prove by the password 0", 1, () -> x.prove(1, other % 10007));
        Check.finish();
    }
}
