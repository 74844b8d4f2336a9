/** Promises 13 and 14. */
final class TakeTest {
    public static void main(String[] args) {
        XmppPair x = Check.withAccounts();
        for (int bad : Check.NO_CONNECTIONS) {
            Check.badArgument("take(" + bad + ")", () -> x.take(bad));
        }
        Check.noElement("take when CLOSED", () -> x.take(0));
        for (int what : new int[] {0, 1, 2, 3, -1}) {
            Check.noElement("taken(" + what + ") when none was taken", () -> x.taken(what));
        }
        Check.online(x, 0, 2, 1, 0);
        Check.online(x, 5, 6, 2, 0);
        x.message(0, 6, -1, -5);
        x.message(5, 2, -1, 70);
        x.message(0, 6, -1, 8);
        Check.noElement("taken(0) when none was taken yet", () -> x.taken(0));
        Check.answers("take(5)", 1, () -> x.take(5));
        takenIs(x, 2, 1, -5);
        Check.answers("stanzas left", 1, () -> x.connection(5, 4));
        Check.answers("take(0)", 1, () -> x.take(0));
        takenIs(x, 6, 2, 70);
        Check.noElement("take(0) when empty", () -> x.take(0));
        takenIs(x, 6, 2, 70);
        Check.answers("take(5)", 1, () -> x.take(5));
        takenIs(x, 2, 1, 8);
        x.close(5);
        x.connect(5);
        takenIs(x, 2, 1, 8);
        for (int bad : new int[] {-1, 3, Integer.MIN_VALUE, Integer.MAX_VALUE}) {
            Check.badArgument("taken(" + bad + ")", () -> x.taken(bad));
        }
        Check.finish();
    }

    private static void takenIs(XmppPair x, int account, int resource, int value) {
        Check.answers("taken(0)", account, () -> x.taken(0));
        Check.answers("taken(1)", resource, () -> x.taken(1));
        Check.answers("taken(2)", value, () -> x.taken(2));
    }
}
