/** Promise 15. */
final class RosterTest {
    public static void main(String[] args) {
        XmppPair x = Check.withAccounts();
        for (int bad : Check.NO_ACCOUNTS) {
            Check.badArgument("roster(" + bad + ", 0)", () -> x.roster(bad, 0));
            Check.badArgument("roster(0, " + bad + ")", () -> x.roster(0, bad));
        }
        Check.online(x, 0, 0, 0, 0);
        Check.online(x, 1, 7, 0, 0);
        x.subscribe(0, 7, 4);
        Check.marks(x, 0, 7, 4);
        Check.marks(x, 7, 0, 8);
        x.subscribe(1, 0, 4);
        Check.marks(x, 0, 7, 12);
        Check.marks(x, 7, 0, 12);
        x.subscribe(1, 0, 5);
        Check.marks(x, 0, 7, 9);
        Check.marks(x, 7, 0, 6);
        x.subscribe(0, 7, 5);
        Check.marks(x, 0, 7, 3);
        Check.marks(x, 7, 0, 3);
        x.close(0);
        x.close(1);
        Check.marks(x, 0, 7, 3);
        for (int other = 1; other < 7; other++) {
            Check.marks(x, 0, other, 0);
            Check.marks(x, other, 0, 0);
            Check.marks(x, 7, other, 0);
            Check.marks(x, other, 7, 0);
        }
        everyTwoAccounts();
        forItself();
        Check.finish();
    }

    /** It is not out of range, and an account has no marks for itself. */
    private static void forItself() {
        XmppPair x = Check.withAccounts();
        for (int account = 0; account < 8; account++) {
            Check.marks(x, account, account, 0);
        }
    }

    /** OUT and IN of each two accounts, and no mark of any others. */
    private static void everyTwoAccounts() {
        for (int asking = 0; asking < 8; asking++) {
            for (int asked = 0; asked < 8; asked++) {
                if (asking != asked) {
                    XmppPair x = Check.withAccounts();
                    Check.toBound(x, 0, asking, 0);
                    x.subscribe(0, asked, 4);
                    onlyThese(x, asking, asked);
                }
            }
        }
    }

    private static void onlyThese(XmppPair x, int asking, int asked) {
        for (int account = 0; account < 8; account++) {
            for (int other = 0; other < 8; other++) {
                if (account != other) {
                    int out = account == asking && other == asked ? 4 : 0;
                    int in = account == asked && other == asking ? 8 : 0;
                    Check.marks(x, account, other, out + in);
                }
            }
        }
    }
}
