/** Promise 17. */
final class CountTest {
    public static void main(String[] args) {
        XmppPair x = Check.withAccounts();
        for (int bad : new int[] {-1, 12, Integer.MIN_VALUE, Integer.MIN_VALUE + 4, Integer.MAX_VALUE}) {
            Check.badArgument("count(" + bad + ")", () -> x.count(bad));
        }
        Check.online(x, 0, 0, 0, 0);
        for (int account = 1; account < 8; account++) {
            for (int i = 0; i < account; i++) {
                x.message(0, account, -1, i);
            }
        }
        for (int account = 0; account < 8; account++) {
            int what = account + 4;
            Check.answers("count(" + what + ")", Math.min(account, 4), () -> x.count(what));
        }
        Check.answers("kept for all", 22, () -> x.count(0));
        Check.answers("ERRORs", 6, () -> x.connection(0, 4));
        Check.answers("waiting", 0, () -> x.count(1));
        lostByMany(x);
        allKeptRowsFull();
        Check.finish();
    }

    private static void lostByMany(XmppPair x) {
        Check.online(x, 1, 0, 1, 0);
        for (int i = 0; i < 12; i++) {
            x.message(0, 0, -1, i);
        }
        Check.answers("lost by two inboxes", 8 + 2, () -> x.count(2));
        x.close(1);
        x.connect(1);
        Check.answers("lost, still", 10, () -> x.count(2));
        x.link(false);
        for (int i = 0; i < 9; i++) {
            x.message(0, 4, -1, i);
        }
        Check.answers("waiting", 8, () -> x.count(1));
        Check.answers("lost with the ERROR that found no room", 11, () -> x.count(2));
        Check.answers("link", 0, () -> x.count(3));
    }

    private static void allKeptRowsFull() {
        XmppPair x = Check.withAccounts();
        Check.toBound(x, 0, 0, 0);
        for (int i = 0; i < 5 * 8; i++) {
            x.message(0, i % 8, -1, i);
        }
        Check.answers("kept for all", 32, () -> x.count(0));
        for (int what = 4; what < 12; what++) {
            int asked = what;
            Check.answers("count(" + what + ")", 4, () -> x.count(asked));
        }
        Check.answers("lost", 0, () -> x.count(2));
    }
}
