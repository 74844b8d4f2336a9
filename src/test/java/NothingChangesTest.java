import java.util.function.ToIntFunction;

/** The last sentence of the terms: a call that throws changes nothing, but where told. */
final class NothingChangesTest {
    public static void main(String[] args) {
        wrongArguments();
        wrongStates();
        emptyInboxes();
        aWrongProof();
        Check.finish();
    }

    /**
     * All stages, an inbox with stanzas, kept and waiting ones, one that was taken: connections 0
     * AVAILABLE, 1 BOUND, 2 KNOWN, 3 CHALLENGED, 4 OPEN, 5 CLOSED; accounts 0 to 5 registered.
     */
    private static XmppPair full() {
        XmppPair x = new XmppPair();
        for (int account = 0; account < 6; account++) {
            x.register(account, Check.PASSWORD);
        }
        Check.online(x, 0, 0, 1, 1);
        Check.toBound(x, 1, 1, 2);
        Check.toKnown(x, 2, 2);
        x.connect(3);
        x.login(3, 3);
        x.connect(4);
        x.subscribe(1, 0, 4);
        x.subscribe(0, 1, 5);
        x.subscribe(0, 1, 4);
        x.message(1, 0, -1, 9);
        x.message(0, 4, -1, 8);
        x.link(false);
        x.message(0, 4, -1, 7);
        x.take(0);
        return x;
    }

    private static void keeps(String what, String want, ToIntFunction<XmppPair> call) {
        XmppPair x = full();
        String before = Check.state(x);
        Check.same(what, Check.outcome(() -> call.applyAsInt(x)), want);
        Check.same("the state behind " + what, Check.state(x), before);
        Check.same("the inbox behind " + what, Check.drain(x, 0), "1/1/2/9");
        Check.answers("the next challenge behind " + what, 5918, () -> x.login(4, 0));
    }

    private static void badArgument(String what, ToIntFunction<XmppPair> call) {
        keeps(what, "IllegalArgumentException", call);
    }

    private static void badState(String what, ToIntFunction<XmppPair> call) {
        keeps(what, "IllegalStateException", call);
    }

    private static void wrongArguments() {
        badArgument("register(8, 0)", x -> x.register(8, 0));
        badArgument("register(6, 10000)", x -> x.register(6, 10000));
        badArgument("connect(6)", x -> x.connect(6));
        badArgument("login(4, 8)", x -> x.login(4, 8));
        badArgument("prove(-1, 0)", x -> x.prove(-1, 0));
        badArgument("bind(2, 3)", x -> x.bind(2, 3));
        badArgument("here(0, 4)", x -> x.here(0, 4));
        badArgument("here(1, -4)", x -> x.here(1, -4));
        badArgument("gone(6)", x -> x.gone(6));
        badArgument("close(-1)", x -> x.close(-1));
        badArgument("message(0, 8, 0, 0)", x -> x.message(0, 8, 0, 0));
        badArgument("message(0, 0, 3, 0)", x -> x.message(0, 0, 3, 0));
        badArgument("subscribe(0, 0, 4)", x -> x.subscribe(0, 0, 4));
        badArgument("subscribe(0, 1, 8)", x -> x.subscribe(0, 1, 8));
        badArgument("take(6)", x -> x.take(6));
        badArgument("taken(3)", x -> x.taken(3));
        badArgument("roster(0, 8)", x -> x.roster(0, 8));
        badArgument("connection(0, 5)", x -> x.connection(0, 5));
        badArgument("count(12)", x -> x.count(12));
    }

    private static void wrongStates() {
        badState("register(0, 5)", x -> x.register(0, 5));
        for (int c = 0; c < 5; c++) {
            int connection = c;
            badState("connect(" + c + ")", x -> x.connect(connection));
        }
        for (int c : new int[] {0, 1, 2, 3, 5}) {
            badState("login(" + c + ", 4)", x -> x.login(c, 4));
        }
        for (int c : new int[] {0, 1, 2, 4, 5}) {
            badState("prove(" + c + ", 4)", x -> x.prove(c, 4));
        }
        for (int c : new int[] {0, 1, 3, 4, 5}) {
            badState("bind(" + c + ", 0)", x -> x.bind(c, 0));
        }
        for (int c = 2; c < 6; c++) {
            int connection = c;
            badState("here(" + c + ", 1)", x -> x.here(connection, 1));
            badState("message(" + c + ", 0, -1, 1)", x -> x.message(connection, 0, -1, 1));
            badState("subscribe(" + c + ", 0, 7)", x -> x.subscribe(connection, 0, 7));
        }
        for (int c = 1; c < 6; c++) {
            int connection = c;
            badState("gone(" + c + ")", x -> x.gone(connection));
        }
        badState("close(5)", x -> x.close(5));
    }

    private static void emptyInboxes() {
        for (int c = 1; c < 6; c++) {
            int connection = c;
            keeps("take(" + c + ")", "NoSuchElementException", x -> x.take(connection));
        }
    }

    /** The one throw that changes something: the connection is OPEN again, and nothing else is. */
    private static void aWrongProof() {
        XmppPair x = full();
        String before = Check.state(x);
        Check.same("a wrong proof", Check.outcome(() -> x.prove(3, -1)), "UnsupportedOperationException");
        Check.answers("stage", 1, () -> x.connection(3, 0));
        Check.answers("account", -1, () -> x.connection(3, 1));
        x.login(3, 3);
        Check.same("the state behind a wrong proof and a new login", Check.state(x), before);
    }
}
