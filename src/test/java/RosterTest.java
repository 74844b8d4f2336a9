/** Promise 15. */
final class RosterTest {
    public static void main(String[] args) {
        XmppPair x = Check.withAccounts();
        for (int bad : Check.NO_ACCOUNTS) {
            Check.badArgument("roster(" + bad + ", 0)", () -> x.roster(bad, 0));
            Check.badArgument("roster(0, " + bad + ")", () -> x.roster(0, bad));
        }
        Check.online(x, 0, 0, 0, 0);
        Check.online(x, 1, 7, 0, 0);
        x.subscribe(0, 7, 4);
        Check.marks(x, 0, 7, 4);
        Check.marks(x, 7, 0, 8);
        x.subscribe(1, 0, 4);
        Check.marks(x, 0, 7, 12);
        Check.marks(x, 7, 0, 12);
        x.subscribe(1, 0, 5);
        Check.marks(x, 0, 7, 9);
        Check.marks(x, 7, 0, 6);
        x.subscribe(0, 7, 5);
        Check.marks(x, 0, 7, 3);
        Check.marks(x, 7, 0, 3);
        x.close(0);
        x.close(1);
        Check.marks(x, 0, 7, 3);
        for (int other = 1; other < 7; other++) {
            Check.marks(x, 0, other, 0);
            Check.marks(x, other, 0, 0);
            Check.marks(x, 7, other, 0);
            Check.marks(x, other, 7, 0);
        }
        Check.finish();
    }
}
