/** Promise 9. */
final class CloseTest {
    public static void main(String[] args) {
        XmppPair x = Check.withAccounts();
        for (int bad : Check.NO_CONNECTIONS) {
            Check.badArgument("close(" + bad + ")", () -> x.close(bad));
        }
        Check.badState("close when CLOSED", () -> x.close(0));
        x.connect(0);
        closes(x, 1);
        x.connect(0);
        x.login(0, 0);
        closes(x, 2);
        Check.toKnown(x, 0, 0);
        closes(x, 3);
        Check.toBound(x, 0, 0, 1);
        closes(x, 4);
        Check.online(x, 0, 0, 1, 2);
        closes(x, 4);
        goneIsSent();
        inboxStays();
        Check.finish();
    }

    private static void closes(XmppPair x, int stage) {
        Check.answers("close at stage " + stage, stage, () -> x.close(0));
        int[] closed = {0, -1, -1, 0};
        for (int what = 0; what < 4; what++) {
            int asked = what;
            Check.answers("connection(0, " + what + ")", closed[what], () -> x.connection(0, asked));
        }
        Check.badState("close again", () -> x.close(0));
    }

    private static void goneIsSent() {
        XmppPair x = Check.withAccounts();
        Check.online(x, 0, 0, 1, 2);
        Check.online(x, 1, 7, 0, 0);
        Check.befriend(x, 1, 0);
        x.close(0);
        Check.inbox(x, 1, "3/0/1/0");
        Check.toBound(x, 0, 0, 1);
        x.close(0);
        Check.inbox(x, 1, "");
        Check.marks(x, 0, 7, 2);
        Check.marks(x, 7, 0, 1);
    }

    private static void inboxStays() {
        XmppPair x = Check.withAccounts();
        Check.online(x, 0, 0, 1, 2);
        x.message(0, 0, -1, 8);
        x.close(0);
        Check.answers("stanzas behind close", 1, () -> x.connection(0, 4));
        Check.inbox(x, 0, "1/0/1/8");
    }
}
