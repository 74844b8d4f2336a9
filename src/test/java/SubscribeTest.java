/** Promise 11, and what the terms say of ASK, GRANT, LEAVE and DENY. */
final class SubscribeTest {
    private static final int ASK = 4;
    private static final int GRANT = 5;
    private static final int LEAVE = 6;
    private static final int DENY = 7;

    public static void main(String[] args) {
        wrongInputs();
        ownAccount();
        askAndGrant();
        askAgain();
        grantSendsPresence();
        leave();
        deny();
        notRegistered();
        grantedByItself();
        presenceNeedsTo();
        throughTheLink();
        askOfOneThatHasTo();
        everyKindToTheFirstAndTheLast();
        denyWithoutFrom();
        presenceToTheOtherAlone();
        Check.finish();
    }

    private static XmppPair two(int account, int other) {
        XmppPair x = Check.withAccounts();
        Check.online(x, 0, account, 0, 0);
        Check.online(x, 1, other, 1, 2);
        return x;
    }

    private static void wrongInputs() {
        XmppPair x = Check.withAccounts();
        Check.badState("subscribe when CLOSED", () -> x.subscribe(0, 1, ASK));
        Check.toKnown(x, 0, 0);
        Check.badState("subscribe when KNOWN", () -> x.subscribe(0, 1, ASK));
        x.bind(0, 0);
        for (int bad : Check.NO_CONNECTIONS) {
            Check.badArgument("subscribe(" + bad + ", 1, 4)", () -> x.subscribe(bad, 1, ASK));
        }
        for (int bad : Check.NO_ACCOUNTS) {
            Check.badArgument("subscribe(0, " + bad + ", 4)", () -> x.subscribe(0, bad, ASK));
            Check.badArgument("subscribe(1, " + bad + ", 4) when CLOSED", () -> x.subscribe(1, bad, ASK));
        }
        for (int bad : new int[] {-1, 3, 8, Integer.MIN_VALUE, Integer.MAX_VALUE}) {
            Check.badArgument("subscribe(0, 1, " + bad + ")", () -> x.subscribe(0, 1, bad));
            Check.badArgument("subscribe(1, 1, " + bad + ") when CLOSED", () -> x.subscribe(1, 1, bad));
        }
    }

    private static void ownAccount() {
        XmppPair x = Check.withAccounts();
        x.connect(0);
        Check.badState("subscribe when OPEN", () -> x.subscribe(0, 0, ASK));
        int challenge = x.login(0, 0);
        Check.badArgument("its own account when CHALLENGED", () -> x.subscribe(0, 0, ASK));
        Check.badState("another account when CHALLENGED", () -> x.subscribe(0, 1, ASK));
        x.prove(0, Check.proofFor(Check.PASSWORD, challenge));
        Check.badArgument("its own account when KNOWN", () -> x.subscribe(0, 0, ASK));
        x.bind(0, 0);
        for (int kind = ASK; kind <= DENY; kind++) {
            int each = kind;
            Check.badArgument("its own account, kind " + kind, () -> x.subscribe(0, 0, each));
        }
    }

    private static void askAndGrant() {
        XmppPair x = two(0, 5);
        Check.answers("GRANT without IN", 0, () -> x.subscribe(1, 0, GRANT));
        Check.inbox(x, 0, "");
        Check.answers("ASK", 1, () -> x.subscribe(0, 5, ASK));
        Check.marks(x, 0, 5, 4);
        Check.marks(x, 5, 0, 8);
        Check.inbox(x, 1, "4/0/-1/0");
        Check.answers("GRANT of the one that asked", 0, () -> x.subscribe(0, 5, GRANT));
        Check.answers("GRANT", 1, () -> x.subscribe(1, 0, GRANT));
        Check.marks(x, 0, 5, 1);
        Check.marks(x, 5, 0, 2);
        Check.inbox(x, 0, "5/5/-1/0 2/5/1/2");
        Check.answers("GRANT again", 0, () -> x.subscribe(1, 0, GRANT));
        Check.inbox(x, 0, "");
    }

    private static void askAgain() {
        XmppPair x = two(0, 1);
        x.subscribe(0, 1, ASK);
        x.subscribe(0, 1, ASK);
        Check.inbox(x, 1, "4/0/-1/0 4/0/-1/0");
        Check.marks(x, 1, 0, 8);
        x.subscribe(1, 0, GRANT);
        Check.drain(x, 0);
        Check.answers("ASK when it has TO", 1, () -> x.subscribe(0, 1, ASK));
        Check.marks(x, 0, 1, 1);
        Check.marks(x, 1, 0, 2);
        Check.inbox(x, 0, "");
        Check.inbox(x, 1, "");
        x.subscribe(1, 0, ASK);
        x.subscribe(0, 1, GRANT);
        Check.marks(x, 0, 1, 3);
        Check.marks(x, 1, 0, 3);
    }

    private static void grantSendsPresence() {
        XmppPair x = Check.withAccounts();
        Check.online(x, 5, 0, 2, -1);
        Check.online(x, 1, 1, 2, -3);
        Check.online(x, 2, 2, 0, 1);
        Check.toBound(x, 3, 1, 1);
        Check.online(x, 4, 1, 0, 3);
        x.subscribe(5, 1, ASK);
        Check.inbox(x, 1, "4/0/-1/0");
        Check.inbox(x, 4, "4/0/-1/0");
        Check.inbox(x, 3, "");
        Check.inbox(x, 2, "");
        x.subscribe(3, 0, GRANT);
        Check.inbox(x, 5, "5/1/-1/0 2/1/2/-3 2/1/0/3");
        Check.answers("DENY", 1, () -> x.subscribe(3, 0, DENY));
        Check.inbox(x, 5, "3/1/2/0 3/1/0/0 7/1/-1/0");
        Check.inbox(x, 2, "");
    }

    private static void leave() {
        XmppPair x = two(0, 1);
        Check.answers("LEAVE of nothing", 1, () -> x.subscribe(0, 1, LEAVE));
        Check.inbox(x, 1, "");
        x.subscribe(0, 1, ASK);
        Check.drain(x, 1);
        Check.answers("LEAVE when it has OUT", 1, () -> x.subscribe(0, 1, LEAVE));
        Check.marks(x, 0, 1, 0);
        Check.marks(x, 1, 0, 0);
        Check.inbox(x, 1, "6/0/-1/0");
        Check.befriend(x, 0, 1);
        Check.befriend(x, 1, 0);
        Check.answers("LEAVE when it has TO", 1, () -> x.subscribe(0, 1, LEAVE));
        Check.marks(x, 0, 1, 2);
        Check.marks(x, 1, 0, 1);
        Check.inbox(x, 1, "6/0/-1/0");
        Check.inbox(x, 0, "");
        x.here(1, 0);
        Check.inbox(x, 0, "");
    }

    private static void deny() {
        XmppPair x = two(0, 1);
        Check.answers("DENY of nothing", 1, () -> x.subscribe(1, 0, DENY));
        Check.inbox(x, 0, "");
        x.subscribe(0, 1, ASK);
        Check.answers("DENY when it has IN", 1, () -> x.subscribe(1, 0, DENY));
        Check.marks(x, 0, 1, 0);
        Check.marks(x, 1, 0, 0);
        Check.inbox(x, 0, "7/1/-1/0");
        Check.drain(x, 1);
        Check.befriend(x, 0, 1);
        Check.befriend(x, 1, 0);
        Check.answers("DENY when it has FROM", 1, () -> x.subscribe(1, 0, DENY));
        Check.inbox(x, 0, "3/1/1/0 7/1/-1/0");
        Check.marks(x, 0, 1, 2);
        Check.marks(x, 1, 0, 1);
        Check.inbox(x, 1, "");
    }

    private static void notRegistered() {
        XmppPair x = new XmppPair();
        x.register(0, Check.PASSWORD);
        Check.online(x, 0, 0, 0, 0);
        for (int kind : new int[] {ASK, LEAVE, DENY, ASK}) {
            Check.answers("kind " + kind + " to none", 1, () -> x.subscribe(0, 2, kind));
            Check.marks(x, 2, 0, 0);
        }
        Check.marks(x, 0, 2, 4);
        Check.inbox(x, 0, "");
    }

    /** An ASK that finds FROM, since the LEAVE before it found no place to wait. */
    private static void grantedByItself() {
        XmppPair x = two(0, 4);
        Check.befriend(x, 0, 1);
        x.link(false);
        for (int i = 0; i < 8; i++) {
            x.message(0, 4, -1, i);
        }
        x.subscribe(0, 4, LEAVE);
        Check.marks(x, 0, 4, 0);
        Check.marks(x, 4, 0, 2);
        Check.inbox(x, 0, "");
        x.link(true);
        Check.drain(x, 1);
        x.here(1, 1);
        Check.inbox(x, 0, "");
        Check.answers("ASK", 1, () -> x.subscribe(0, 4, ASK));
        Check.marks(x, 0, 4, 1);
        Check.marks(x, 4, 0, 2);
        Check.inbox(x, 0, "5/4/-1/0");
        Check.inbox(x, 1, "");
    }

    private static void presenceNeedsTo() {
        XmppPair x = two(0, 4);
        x.subscribe(0, 4, ASK);
        x.link(false);
        x.subscribe(0, 4, LEAVE);
        x.subscribe(1, 0, GRANT);
        Check.answers("LEAVE, GRANT and HERE wait", 3, () -> x.count(1));
        x.link(true);
        Check.marks(x, 0, 4, 0);
        Check.marks(x, 4, 0, 0);
        Check.inbox(x, 0, "");
        Check.inbox(x, 1, "4/0/-1/0 6/0/-1/0");
    }

    private static void throughTheLink() {
        XmppPair x = two(0, 4);
        Check.befriend(x, 0, 1);
        x.link(false);
        x.subscribe(1, 0, DENY);
        x.subscribe(0, 4, ASK);
        x.subscribe(0, 4, LEAVE);
        Check.marks(x, 4, 0, 0);
        Check.marks(x, 0, 4, 0);
        Check.answers("GONE, DENY, ASK and LEAVE wait", 4, () -> x.count(1));
        x.link(true);
        Check.inbox(x, 0, "");
        Check.inbox(x, 1, "4/0/-1/0 6/0/-1/0");
    }

    /** "else nothing happens but that it is sent": shown where the DENY to the one with TO was a 9th. */
    private static void askOfOneThatHasTo() {
        XmppPair x = two(0, 4);
        Check.befriend(x, 0, 1);
        x.gone(1);
        Check.drain(x, 0);
        x.link(false);
        for (int i = 0; i < 8; i++) {
            x.message(1, 3, -1, i);
        }
        x.subscribe(1, 0, DENY);
        x.link(true);
        Check.marks(x, 0, 4, 1);
        Check.marks(x, 4, 0, 0);
        x.here(1, 0);
        Check.answers("ASK", 1, () -> x.subscribe(0, 4, ASK));
        Check.marks(x, 0, 4, 1);
        Check.marks(x, 4, 0, 8);
        Check.inbox(x, 1, "4/0/-1/0");
        Check.answers("GRANT", 1, () -> x.subscribe(1, 0, GRANT));
        Check.marks(x, 0, 4, 1);
        Check.marks(x, 4, 0, 2);
        Check.inbox(x, 0, "2/4/1/0");
    }

    private static void everyKindToTheFirstAndTheLast() {
        for (int kind = ASK; kind <= DENY; kind++) {
            int each = kind;
            XmppPair x = Check.withAccounts();
            Check.toBound(x, 0, 3, 0);
            int answer = kind == GRANT ? 0 : 1;
            Check.answers("kind " + kind + " to 0", answer, () -> x.subscribe(0, 0, each));
            Check.answers("kind " + kind + " to 7", answer, () -> x.subscribe(0, 7, each));
            Check.marks(x, 3, 0, kind == ASK ? 4 : 0);
            Check.marks(x, 3, 7, kind == ASK ? 4 : 0);
        }
    }

    /** "if it had FROM, GONE ... goes first": with IN alone, and with no mark, the DENY goes alone. */
    private static void denyWithoutFrom() {
        XmppPair x = two(0, 4);
        x.subscribe(0, 4, ASK);
        x.link(false);
        Check.answers("DENY when it has IN", 1, () -> x.subscribe(1, 0, DENY));
        Check.answers("waiting", 1, () -> x.count(1));
        Check.answers("DENY when it has no mark", 1, () -> x.subscribe(1, 0, DENY));
        Check.answers("waiting", 2, () -> x.count(1));
        Check.answers("link", 2, () -> x.link(true));
        Check.inbox(x, 0, "7/4/-1/0");
    }

    /** The HERE behind a GRANT and the GONE before a DENY are for that account, not for all that have TO. */
    private static void presenceToTheOtherAlone() {
        XmppPair x = two(0, 1);
        Check.online(x, 2, 2, 0, 0);
        Check.befriend(x, 2, 1);
        x.subscribe(0, 1, ASK);
        x.subscribe(1, 0, GRANT);
        Check.inbox(x, 0, "5/1/-1/0 2/1/1/2");
        Check.inbox(x, 2, "");
        x.subscribe(1, 0, DENY);
        Check.inbox(x, 0, "3/1/1/0 7/1/-1/0");
        Check.inbox(x, 2, "");
        Check.marks(x, 1, 2, 2);
        Check.marks(x, 2, 1, 1);
    }
}
