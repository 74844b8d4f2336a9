/** Promise 1. */
final class NewObjectTest {
    public static void main(String[] args) {
        XmppPair x = new XmppPair();
        int[] closed = {0, -1, -1, 0, 0};
        for (int c = 0; c < 6; c++) {
            for (int what = 0; what < 5; what++) {
                int connection = c;
                int asked = what;
                Check.answers("connection(" + c + ", " + what + ")", closed[what], () -> x.connection(connection, asked));
            }
            int connection = c;
            Check.noElement("take(" + c + ")", () -> x.take(connection));
        }
        for (int account = 0; account < 8; account++) {
            for (int other = 0; other < 8; other++) {
                if (account != other) {
                    Check.marks(x, account, other, 0);
                }
            }
        }
        for (int what = 0; what < 12; what++) {
            int asked = what;
            Check.answers("count(" + what + ")", what == 3 ? 1 : 0, () -> x.count(asked));
        }
        Check.noElement("taken(0)", () -> x.taken(0));
        Check.answers("link(true)", 0, () -> x.link(true));
        objectsAreApart();
        Check.finish();
    }

    private static void objectsAreApart() {
        XmppPair one = Check.withAccounts();
        XmppPair two = new XmppPair();
        Check.online(one, 0, 0, 0, 1);
        one.message(0, 0, 0, 5);
        one.take(0);
        one.link(false);
        Check.answers("register of another object", 1, () -> two.register(0, 1));
        Check.same("another object", Check.state(two), Check.state(new XmppPair()));
        two.connect(0);
        Check.answers("the first challenge of another object", 4242, () -> two.login(0, 0));
    }
}
