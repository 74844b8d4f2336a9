/** The terms' block on ARRIVING, each sentence with the cases at its edges. */
final class ArrivingTest {
    private static final int ASK = 4;
    private static final int GRANT = 5;
    private static final int LEAVE = 6;
    private static final int DENY = 7;

    public static void main(String[] args) {
        messageToEachResource();
        messageToOneThatIsNotAvailable();
        messageByTwoPriorities();
        messageToSeveralOfOnePriority();
        keptForEachAccount();
        fifthToEachAccount();
        notRegistered();
        hereAndGoneNeedTo();
        hereAndGoneToAll();
        errorToAll();
        askOfOneThatIsGranted();
        askOfRegisteredAndNot();
        grantNeedsOut();
        leaveOfFromOfInAndOfNeither();
        denyOfToOfOutAndOfNeither();
        answersWhileTheRowArrives();
        Check.finish();
    }

    /** Three connections of account 6, with resources 2, 1 and 0, and a sender of account 5. */
    private static XmppPair three(int first, int second, int third) {
        XmppPair x = Check.withAccounts();
        Check.toBound(x, 0, 5, 1);
        Check.online(x, 1, 6, 2, first);
        Check.online(x, 2, 6, 1, second);
        Check.online(x, 3, 6, 0, third);
        return x;
    }

    private static void messageToEachResource() {
        for (int resource = 0; resource < 3; resource++) {
            XmppPair x = three(-3, -3, -3);
            x.message(0, 6, resource, 8);
            for (int c = 1; c <= 3; c++) {
                Check.inbox(x, c, c == 3 - resource ? "1/5/1/8" : "");
            }
            Check.answers("kept", 0, () -> x.count(0));
        }
    }

    private static void messageToOneThatIsNotAvailable() {
        XmppPair x = three(3, 0, 2);
        x.gone(1);
        x.message(0, 6, 2, 1);
        Check.inbox(x, 1, "");
        Check.inbox(x, 2, "");
        Check.inbox(x, 3, "1/5/1/1");
        x.close(3);
        x.message(0, 6, 0, 2);
        Check.inbox(x, 2, "1/5/1/2");
        x.here(2, -1);
        x.message(0, 6, 0, 3);
        x.message(0, 6, 2, 4);
        Check.answers("kept", 2, () -> x.count(10));
        x.message(0, 6, 1, 5);
        Check.inbox(x, 2, "1/5/1/5");
    }

    /** Each two priorities of -3 .. 3: those of 0 or more with the greatest one. */
    private static void messageByTwoPriorities() {
        for (int first = -3; first <= 3; first++) {
            for (int second = -3; second <= 3; second++) {
                XmppPair x = Check.withAccounts();
                Check.toBound(x, 0, 1, 0);
                Check.online(x, 1, 0, 0, first);
                Check.online(x, 2, 0, 1, second);
                x.message(0, 0, -1, 8);
                int greatest = Math.max(first, second);
                Check.inbox(x, 1, greatest >= 0 && first == greatest ? "1/1/0/8" : "");
                Check.inbox(x, 2, greatest >= 0 && second == greatest ? "1/1/0/8" : "");
                Check.answers("kept with " + first + " and " + second, greatest < 0 ? 1 : 0, () -> x.count(4));
            }
        }
    }

    private static void messageToSeveralOfOnePriority() {
        XmppPair x = three(0, 0, 0);
        x.message(0, 6, -1, 1);
        for (int c = 1; c <= 3; c++) {
            Check.inbox(x, c, "1/5/1/1");
        }
        x.here(2, 1);
        Check.online(x, 4, 7, 0, 3);
        x.message(0, 6, -1, 2);
        Check.inbox(x, 1, "");
        Check.inbox(x, 2, "1/5/1/2");
        Check.inbox(x, 3, "");
        Check.inbox(x, 4, "");
    }

    private static void keptForEachAccount() {
        for (int account = 0; account < 8; account++) {
            XmppPair x = Check.withAccounts();
            Check.toBound(x, 0, 2, 1);
            int what = 4 + account;
            for (int body = 1; body <= 4; body++) {
                x.message(0, account, body % 2 == 0 ? -1 : 0, body);
                Check.answers("kept for " + account, body, () -> x.count(what));
                Check.answers("kept for all", body, () -> x.count(0));
            }
            Check.toBound(x, 1, account, 2);
            Check.answers("here", 4, () -> x.here(1, 0));
            Check.inbox(x, 1, "1/2/1/1 1/2/1/2 1/2/1/3 1/2/1/4");
            Check.answers("kept no more", 0, () -> x.count(what));
        }
    }

    private static void fifthToEachAccount() {
        for (int account = 0; account < 8; account++) {
            XmppPair x = Check.withAccounts();
            int sender = account == 2 ? 3 : 2;
            Check.online(x, 0, sender, 1, -1);
            for (int body = 1; body <= 6; body++) {
                x.message(0, account, -1, body);
            }
            Check.inbox(x, 0, "8/" + account + "/-1/5 8/" + account + "/-1/6");
            int what = 4 + account;
            Check.answers("kept", 4, () -> x.count(what));
            Check.online(x, 1, account, 0, 0);
            Check.inbox(x, 1, "1/" + sender + "/1/1 1/" + sender + "/1/2 1/" + sender + "/1/3 1/" + sender + "/1/4");
            x.close(1);
            x.message(0, account, -1, 7);
            Check.answers("kept when there is room again", 1, () -> x.count(what));
            Check.inbox(x, 0, "");
        }
    }

    private static void notRegistered() {
        for (int account = 1; account < 8; account++) {
            XmppPair x = new XmppPair();
            x.register(0, Check.PASSWORD);
            Check.online(x, 0, 0, 0, -3);
            x.message(0, account, -1, 5);
            x.message(0, account, 2, 6);
            Check.inbox(x, 0, "8/" + account + "/-1/5 8/" + account + "/-1/6");
            Check.answers("kept for all", 0, () -> x.count(0));
            x.register(account, 0);
            x.message(0, account, -1, 7);
            Check.inbox(x, 0, "");
            Check.answers("kept for all", 1, () -> x.count(0));
        }
    }

    /** Account 4 keeps FROM for 0, whose LEAVE was a 9th for the link, so that 4 sends what 0 does not get. */
    private static void hereAndGoneNeedTo() {
        XmppPair x = Check.withAccounts();
        Check.online(x, 0, 0, 0, 0);
        Check.online(x, 1, 4, 1, 0);
        Check.toBound(x, 2, 3, 0);
        Check.befriend(x, 0, 1);
        x.here(1, 1);
        x.gone(1);
        Check.inbox(x, 0, "2/4/1/1 3/4/1/0");
        x.link(false);
        for (int i = 0; i < 8; i++) {
            x.message(2, 7, -1, i);
        }
        x.subscribe(0, 4, LEAVE);
        x.link(true);
        Check.marks(x, 0, 4, 0);
        Check.marks(x, 4, 0, 2);
        x.here(1, 2);
        x.gone(1);
        Check.inbox(x, 0, "");
        x.subscribe(0, 4, ASK);
        Check.inbox(x, 0, "5/4/-1/0");
        x.here(1, 3);
        x.gone(1);
        Check.inbox(x, 0, "2/4/1/3 3/4/1/0");
    }

    private static void hereAndGoneToAll() {
        XmppPair x = three(-3, 3, 0);
        Check.toBound(x, 4, 1, 2);
        Check.befriend(x, 1, 4);
        for (int c = 1; c <= 3; c++) {
            Check.drain(x, c);
        }
        x.gone(3);
        x.here(4, -1);
        x.gone(4);
        Check.inbox(x, 1, "2/1/2/-1 3/1/2/0");
        Check.inbox(x, 2, "2/1/2/-1 3/1/2/0");
        Check.inbox(x, 3, "");
        Check.inbox(x, 0, "");
    }

    private static void errorToAll() {
        XmppPair x = three(-3, 3, 0);
        x.gone(3);
        for (int body = 1; body <= 5; body++) {
            x.message(3, 0, -1, body);
        }
        Check.inbox(x, 1, "8/0/-1/5");
        Check.inbox(x, 2, "8/0/-1/5");
        Check.inbox(x, 3, "");
        Check.inbox(x, 0, "");
        x.gone(1);
        x.gone(2);
        x.message(3, 0, -1, 6);
        for (int c = 0; c <= 3; c++) {
            Check.inbox(x, c, "");
        }
        Check.answers("an ERROR is not kept", 4, () -> x.count(0));
    }

    /** T has FROM for F: the asked one gets nothing, the asking one a GRANT if it has OUT. */
    private static void askOfOneThatIsGranted() {
        XmppPair x = Check.withAccounts();
        Check.online(x, 0, 0, 0, 0);
        Check.online(x, 1, 1, 1, 0);
        Check.befriend(x, 0, 1);
        Check.answers("ASK of one that has TO", 1, () -> x.subscribe(0, 1, ASK));
        Check.marks(x, 0, 1, 1);
        Check.marks(x, 1, 0, 2);
        Check.inbox(x, 0, "");
        Check.inbox(x, 1, "");
    }

    private static void askOfRegisteredAndNot() {
        XmppPair x = new XmppPair();
        x.register(0, Check.PASSWORD);
        x.register(5, Check.PASSWORD);
        Check.online(x, 0, 0, 0, 0);
        Check.online(x, 1, 5, 0, -3);
        Check.toBound(x, 2, 5, 1);
        for (int account = 1; account < 8; account++) {
            int asked = account;
            Check.answers("ASK of " + account, 1, () -> x.subscribe(0, asked, ASK));
            Check.marks(x, 0, account, 4);
            Check.marks(x, account, 0, account == 5 ? 8 : 0);
        }
        Check.inbox(x, 1, "4/0/-1/0");
        Check.inbox(x, 2, "");
        Check.inbox(x, 0, "");
    }

    /** While the GRANT and the HERE behind it wait, the asking one LEAVEs: they find neither OUT nor TO. */
    private static void grantNeedsOut() {
        XmppPair x = Check.withAccounts();
        Check.online(x, 0, 0, 0, 0);
        Check.online(x, 1, 4, 1, 0);
        x.subscribe(0, 4, ASK);
        x.link(false);
        x.subscribe(1, 0, GRANT);
        x.subscribe(0, 4, LEAVE);
        Check.drain(x, 1);
        Check.answers("link", 3, () -> x.link(true));
        Check.inbox(x, 0, "");
        Check.inbox(x, 1, "6/0/-1/0");
        Check.marks(x, 0, 4, 0);
        Check.marks(x, 4, 0, 0);
        x.subscribe(0, 4, ASK);
        x.subscribe(1, 0, GRANT);
        Check.inbox(x, 0, "5/4/-1/0 2/4/1/0");
        Check.marks(x, 0, 4, 1);
        Check.marks(x, 4, 0, 2);
    }

    private static XmppPair pair() {
        XmppPair x = Check.withAccounts();
        Check.online(x, 0, 0, 0, 0);
        Check.online(x, 1, 1, 0, 3);
        Check.online(x, 2, 1, 1, -3);
        Check.toBound(x, 3, 1, 2);
        return x;
    }

    private static void drainAll(XmppPair x) {
        for (int c = 0; c < 6; c++) {
            Check.drain(x, c);
        }
    }

    private static void bothGet(XmppPair x, String stanza) {
        Check.inbox(x, 1, stanza);
        Check.inbox(x, 2, stanza);
        Check.inbox(x, 3, "");
        Check.inbox(x, 0, "");
    }

    private static void leaveOfFromOfInAndOfNeither() {
        XmppPair x = pair();
        x.subscribe(0, 1, LEAVE);
        bothGet(x, "");
        x.subscribe(0, 1, ASK);
        drainAll(x);
        x.subscribe(0, 1, LEAVE);
        bothGet(x, "6/0/-1/0");
        Check.marks(x, 1, 0, 0);
        Check.befriend(x, 0, 1);
        Check.befriend(x, 1, 0);
        drainAll(x);
        x.subscribe(0, 1, LEAVE);
        bothGet(x, "6/0/-1/0");
        Check.marks(x, 1, 0, 1);
        Check.marks(x, 0, 1, 2);
        x.subscribe(0, 1, LEAVE);
        bothGet(x, "");
        Check.marks(x, 1, 0, 1);
    }

    private static void denyOfToOfOutAndOfNeither() {
        XmppPair x = pair();
        x.gone(0);
        x.subscribe(0, 1, DENY);
        bothGet(x, "");
        x.subscribe(1, 0, ASK);
        x.subscribe(0, 1, DENY);
        bothGet(x, "7/0/-1/0");
        Check.marks(x, 1, 0, 0);
        Check.befriend(x, 0, 1);
        Check.befriend(x, 1, 0);
        drainAll(x);
        x.subscribe(0, 1, DENY);
        bothGet(x, "7/0/-1/0");
        Check.marks(x, 1, 0, 2);
        Check.marks(x, 0, 1, 1);
        x.subscribe(0, 1, DENY);
        bothGet(x, "");
        Check.marks(x, 1, 0, 2);
    }

    /** An ERROR that an arriving message brings about arrives at once, before those that still wait. */
    private static void answersWhileTheRowArrives() {
        XmppPair x = Check.withAccounts();
        Check.online(x, 0, 0, 0, 0);
        Check.toBound(x, 1, 4, 0);
        x.link(false);
        for (int body = 1; body <= 5; body++) {
            x.message(0, 4, -1, body);
        }
        x.message(1, 0, -1, 6);
        Check.answers("link", 6, () -> x.link(true));
        Check.inbox(x, 0, "8/4/-1/5 1/4/0/6");
    }
}
