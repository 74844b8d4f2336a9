import java.util.function.Consumer;

/**
 * The terms' sentence on the INBOX: 10 STANZAS at most, one more is LOST. Each way into an inbox
 * has a test of its own: as the 10th stanza it gets in, as the 11th it is lost.
 */
final class InboxTest {
    private static final int ASK = 4;
    private static final int GRANT = 5;
    private static final int LEAVE = 6;
    private static final int DENY = 7;
    private static final int FULL = 10;

    public static void main(String[] args) {
        message();
        messageByPriority();
        hereArrives();
        goneArrives();
        ask();
        grant();
        leave();
        deny();
        errorForAFifth();
        errorForAStrangerAccount();
        errorForANinth();
        hereShown();
        kept();
        eachReceiverForItself();
        roomBehindTake();
        fullAndNotAvailable();
        lostStaysBehindConnect();
        Check.finish();
    }

    private static void nothing(XmppPair x) {
    }

    /** Connection 0 is BOUND for account 0, connection 1 AVAILABLE for account 1, whose inbox is filled. */
    private static XmppPair filled(int stanzas, Consumer<XmppPair> before) {
        XmppPair x = Check.withAccounts();
        Check.toBound(x, 0, 0, 2);
        Check.online(x, 1, 1, 0, 0);
        before.accept(x);
        Check.drain(x, 1);
        for (int body = 0; body < stanzas; body++) {
            x.message(0, 1, 0, body);
        }
        return x;
    }

    private static String messages(int first, int behindLast) {
        StringBuilder text = new StringBuilder();
        for (int body = first; body < behindLast; body++) {
            text.append(body > first ? " " : "").append("1/0/2/").append(body);
        }
        return text.toString();
    }

    private static void tenthAndEleventh(String what, Consumer<XmppPair> before, Consumer<XmppPair> way, String stanza) {
        XmppPair one = filled(FULL - 1, before);
        way.accept(one);
        Check.answers(what + " as the 10th: held", FULL, () -> one.connection(1, 4));
        Check.answers(what + " as the 10th: lost", 0, () -> one.count(2));
        Check.inbox(one, 1, messages(0, FULL - 1) + " " + stanza);
        XmppPair two = filled(FULL, before);
        way.accept(two);
        Check.answers(what + " as the 11th: held", FULL, () -> two.connection(1, 4));
        Check.answers(what + " as the 11th: lost", 1, () -> two.count(2));
        Check.inbox(two, 1, messages(0, FULL));
        Check.same(what + ": the marks of the two accounts", marks(two), marks(one));
        Check.answers(what + ": kept", one.count(0), () -> two.count(0));
    }

    private static String marks(XmppPair x) {
        return x.roster(0, 1) + "," + x.roster(1, 0);
    }

    private static void message() {
        tenthAndEleventh("a MESSAGE", InboxTest::nothing, x -> x.message(0, 1, 0, 77), "1/0/2/77");
    }

    private static void messageByPriority() {
        tenthAndEleventh("a MESSAGE to none", InboxTest::nothing, x -> x.message(0, 1, -1, 77), "1/0/2/77");
    }

    private static void watch(XmppPair x, int watcher, int watched) {
        x.subscribe(watcher, watched, ASK);
        x.subscribe(watched, watcher, GRANT);
    }

    private static void hereArrives() {
        tenthAndEleventh("a HERE", x -> watch(x, 1, 0), x -> x.here(0, -3), "2/0/2/-3");
    }

    private static void goneArrives() {
        Consumer<XmppPair> before = x -> {
            watch(x, 1, 0);
            x.here(0, 3);
        };
        tenthAndEleventh("a GONE", before, x -> x.gone(0), "3/0/2/0");
    }

    private static void ask() {
        tenthAndEleventh("an ASK", InboxTest::nothing, x -> x.subscribe(0, 1, ASK), "4/0/-1/0");
    }

    private static void grant() {
        tenthAndEleventh("a GRANT", x -> x.subscribe(1, 0, ASK), x -> x.subscribe(0, 1, GRANT), "5/0/-1/0");
    }

    private static void leave() {
        tenthAndEleventh("a LEAVE", x -> watch(x, 0, 1), x -> x.subscribe(0, 1, LEAVE), "6/0/-1/0");
    }

    private static void deny() {
        tenthAndEleventh("a DENY", x -> watch(x, 1, 0), x -> x.subscribe(0, 1, DENY), "7/0/-1/0");
    }

    private static void errorForAFifth() {
        Consumer<XmppPair> before = x -> {
            for (int i = 0; i < 4; i++) {
                x.message(1, 3, -1, i);
            }
        };
        tenthAndEleventh("an ERROR for a 5th", before, x -> x.message(1, 3, -1, 55), "8/3/-1/55");
    }

    private static void errorForAStrangerAccount() {
        for (int held = FULL - 1; held <= FULL; held++) {
            XmppPair x = new XmppPair();
            x.register(1, Check.PASSWORD);
            Check.online(x, 1, 1, 0, 0);
            for (int i = 0; i < held; i++) {
                x.message(1, 1, 0, i);
            }
            x.message(1, 6, 2, 66);
            Check.answers("held with " + held + " and an ERROR", FULL, () -> x.connection(1, 4));
            Check.answers("lost with " + held + " and an ERROR", held - 9, () -> x.count(2));
        }
    }

    private static void errorForANinth() {
        Consumer<XmppPair> before = x -> {
            x.link(false);
            for (int i = 0; i < 8; i++) {
                x.message(1, 4, -1, i);
            }
        };
        tenthAndEleventh("an ERROR for a 9th", before, x -> x.message(1, 4, -1, 99), "8/4/-1/99");
    }

    private static void hereShown() {
        Consumer<XmppPair> before = x -> {
            watch(x, 1, 0);
            x.here(0, 2);
        };
        Consumer<XmppPair> way = x -> {
            x.gone(1);
            Check.answers("here with no room for more", FULL, () -> x.here(1, 0));
        };
        tenthAndEleventh("a HERE that is shown", before, way, "2/0/2/2");
    }

    private static void kept() {
        Consumer<XmppPair> way = x -> {
            x.gone(1);
            x.message(0, 1, 0, 88);
            Check.answers("kept before here", 1, () -> x.count(5));
            Check.answers("here with no room for more", FULL, () -> x.here(1, 0));
            Check.answers("kept behind here", 0, () -> x.count(5));
        };
        tenthAndEleventh("a MESSAGE that was KEPT", InboxTest::nothing, way, "1/0/2/88");
    }

    private static void eachReceiverForItself() {
        XmppPair x = filled(FULL, InboxTest::nothing);
        Check.online(x, 2, 1, 1, 0);
        Check.online(x, 3, 1, 2, 0);
        x.message(0, 1, -1, 70);
        Check.answers("lost by the one that is full", 1, () -> x.count(2));
        Check.inbox(x, 2, "1/0/2/70");
        Check.inbox(x, 3, "1/0/2/70");
        for (int body = 0; body < FULL; body++) {
            x.message(0, 1, 1, body);
        }
        Check.answers("lost so far", 1, () -> x.count(2));
        x.subscribe(0, 1, ASK);
        Check.answers("lost by two that are full", 3, () -> x.count(2));
        Check.inbox(x, 3, "4/0/-1/0");
        Check.inbox(x, 1, messages(0, FULL));
    }

    private static void roomBehindTake() {
        XmppPair x = filled(FULL, InboxTest::nothing);
        x.take(1);
        Check.answers("the body of the first", 0, () -> x.taken(2));
        x.message(0, 1, 0, FULL);
        Check.answers("lost", 0, () -> x.count(2));
        x.message(0, 1, 0, FULL + 1);
        Check.answers("lost", 1, () -> x.count(2));
        Check.inbox(x, 1, messages(1, FULL + 1));
        Check.noElement("take of the empty inbox", () -> x.take(1));
        x.message(0, 1, 0, 5);
        Check.inbox(x, 1, messages(5, 6));
    }

    private static void fullAndNotAvailable() {
        XmppPair x = filled(FULL, InboxTest::nothing);
        x.gone(1);
        x.message(0, 1, 0, 50);
        x.subscribe(0, 1, ASK);
        Check.answers("lost by one that gets nothing", 0, () -> x.count(2));
        Check.answers("kept", 1, () -> x.count(5));
        Check.inbox(x, 1, messages(0, FULL));
    }

    private static void lostStaysBehindConnect() {
        XmppPair x = filled(FULL + 3, InboxTest::nothing);
        Check.answers("lost", 3, () -> x.count(2));
        x.close(1);
        Check.answers("lost behind close", 3, () -> x.count(2));
        x.connect(1);
        Check.answers("stanzas of a full inbox behind connect", 0, () -> x.connection(1, 4));
        Check.noElement("take behind connect", () -> x.take(1));
        Check.answers("lost behind connect", 3, () -> x.count(2));
        x.close(1);
        Check.online(x, 1, 1, 0, 0);
        for (int body = 0; body < FULL; body++) {
            x.message(0, 1, 0, body);
        }
        Check.answers("lost when full again", 3, () -> x.count(2));
        Check.inbox(x, 1, messages(0, FULL));
    }
}
