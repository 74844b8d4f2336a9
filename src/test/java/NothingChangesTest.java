import java.util.function.ToIntFunction;

/**
 * The last sentence of the terms: what is thrown is told in the order of testing, and a call that
 * throws changes nothing, but where told. Every refused call: what it throws, and that the object
 * behind it shows all that another one shows which was not called so.
 */
final class NothingChangesTest {
    private static final String ARGUMENT = "IllegalArgumentException";
    private static final String STATE = "IllegalStateException";
    private static final String NO_ELEMENT = "NoSuchElementException";
    private static final String WRONG_PROOF = "UnsupportedOperationException";
    private static final int CHALLENGE_OF_3 = 7999;
    private static final int NEXT_CHALLENGE = 5918;
    private static final String UNTOUCHED = reveal(full());

    public static void main(String[] args) {
        register();
        connect();
        login();
        prove();
        bind();
        here();
        gone();
        close();
        message();
        subscribe();
        take();
        looks();
        grantWithoutIn();
        wrongProof();
        Check.finish();
    }

    /**
     * All stages, an inbox with stanzas, kept and waiting ones, one that was taken: connections 0
     * AVAILABLE, 1 BOUND, 2 KNOWN, 3 CHALLENGED, 4 OPEN, 5 CLOSED, with the accounts 0 to 3; accounts
     * 0 to 5 registered; account 0 has FROM and OUT for 1.
     */
    private static XmppPair full() {
        XmppPair x = new XmppPair();
        for (int account = 0; account < 6; account++) {
            x.register(account, Check.PASSWORD);
        }
        Check.online(x, 0, 0, 1, 1);
        Check.toBound(x, 1, 1, 2);
        Check.toKnown(x, 2, 2);
        x.connect(3);
        x.login(3, 3);
        x.connect(4);
        x.subscribe(1, 0, 4);
        x.subscribe(0, 1, 5);
        x.subscribe(0, 1, 4);
        x.message(1, 0, -1, 9);
        x.message(1, 0, 1, 10);
        x.message(1, 1, -1, 11);
        x.message(0, 4, -1, 8);
        x.link(false);
        x.message(0, 4, -1, 7);
        x.subscribe(1, 5, 4);
        x.take(0);
        return x;
    }

    /** All that an object of full() holds, told by looks and by calls that bring to light what no look tells. */
    private static String reveal(XmppPair x) {
        StringBuilder text = new StringBuilder(Check.state(x));
        drainAll(x, text);
        tell(text, x, y -> y.prove(3, Check.proofFor(Check.PASSWORD, CHALLENGE_OF_3)));
        tell(text, x, y -> y.login(4, 0));
        tell(text, x, y -> y.bind(2, 0));
        tell(text, x, y -> y.here(2, 0));
        tell(text, x, y -> y.here(1, 0));
        tell(text, x, y -> y.link(true));
        drainAll(x, text);
        tell(text, x, y -> y.close(3));
        for (int account = 0; account < 8; account++) {
            comeAndGo(x, account, text);
        }
        return text.toString();
    }

    private static void tell(StringBuilder text, XmppPair x, ToIntFunction<XmppPair> call) {
        text.append(Check.outcome(() -> call.applyAsInt(x))).append(';');
    }

    private static void drainAll(XmppPair x, StringBuilder text) {
        for (int c = 0; c < 6; c++) {
            text.append(Check.drain(x, c)).append(';');
        }
    }

    private static void comeAndGo(XmppPair x, int account, StringBuilder text) {
        tell(text, x, y -> y.connect(3));
        int challenge = x.login(3, account);
        text.append(challenge).append(';');
        tell(text, x, y -> y.prove(3, Check.proofFor(Check.PASSWORD, challenge)));
        tell(text, x, y -> y.bind(3, 0));
        tell(text, x, y -> y.here(3, 0));
        text.append(Check.drain(x, 3)).append(';');
        tell(text, x, y -> y.close(3));
    }

    private static void refuses(String want, String what, ToIntFunction<XmppPair> call) {
        XmppPair x = full();
        Check.same(what, Check.outcome(() -> call.applyAsInt(x)), want);
        Check.same("the object behind " + what, reveal(x), UNTOUCHED);
    }

    private static int[] beside(int least, int greatest) {
        return new int[] {least - 1, greatest + 1, Integer.MIN_VALUE, Integer.MAX_VALUE};
    }

    private static void register() {
        for (int bad : Check.NO_ACCOUNTS) {
            refuses(ARGUMENT, "register(" + bad + ", 0)", x -> x.register(bad, 0));
        }
        for (int bad : beside(0, 9999)) {
            refuses(ARGUMENT, "register(6, " + bad + ")", x -> x.register(6, bad));
            refuses(ARGUMENT, "register(0, " + bad + "), which is registered", x -> x.register(0, bad));
        }
        for (int a = 0; a < 6; a++) {
            int account = a;
            refuses(STATE, "register(" + account + ", 0)", x -> x.register(account, 0));
            refuses(STATE, "register(" + account + ", 77)", x -> x.register(account, Check.PASSWORD));
        }
    }

    private static void connect() {
        for (int bad : Check.NO_CONNECTIONS) {
            refuses(ARGUMENT, "connect(" + bad + ")", x -> x.connect(bad));
        }
        for (int c : new int[] {0, 1, 2, 3, 4}) {
            refuses(STATE, "connect(" + c + ")", x -> x.connect(c));
        }
    }

    private static void login() {
        for (int bad : Check.NO_CONNECTIONS) {
            refuses(ARGUMENT, "login(" + bad + ", 0)", x -> x.login(bad, 0));
        }
        for (int bad : Check.NO_ACCOUNTS) {
            for (int c = 0; c < 6; c++) {
                int connection = c;
                refuses(ARGUMENT, "login(" + c + ", " + bad + ")", x -> x.login(connection, bad));
            }
        }
        for (int c : new int[] {0, 1, 2, 3, 5}) {
            refuses(STATE, "login(" + c + ", 4)", x -> x.login(c, 4));
        }
    }

    private static void prove() {
        for (int bad : Check.NO_CONNECTIONS) {
            refuses(ARGUMENT, "prove(" + bad + ", 0)", x -> x.prove(bad, 0));
        }
        for (int c : new int[] {0, 1, 2, 4, 5}) {
            refuses(STATE, "prove(" + c + ", -1)", x -> x.prove(c, -1));
            refuses(STATE, "prove of " + c + " by the last right proof",
                    x -> x.prove(c, Check.proofFor(Check.PASSWORD, CHALLENGE_OF_3)));
        }
    }

    private static void bind() {
        for (int bad : Check.NO_CONNECTIONS) {
            refuses(ARGUMENT, "bind(" + bad + ", 0)", x -> x.bind(bad, 0));
        }
        for (int bad : beside(0, 2)) {
            for (int c = 0; c < 6; c++) {
                int connection = c;
                refuses(ARGUMENT, "bind(" + c + ", " + bad + ")", x -> x.bind(connection, bad));
            }
        }
        for (int c : new int[] {0, 1, 3, 4, 5}) {
            for (int resource = 0; resource < 3; resource++) {
                int each = resource;
                refuses(STATE, "bind(" + c + ", " + each + ")", x -> x.bind(c, each));
            }
        }
    }

    private static void here() {
        for (int bad : Check.NO_CONNECTIONS) {
            refuses(ARGUMENT, "here(" + bad + ", 0)", x -> x.here(bad, 0));
        }
        for (int bad : beside(-3, 3)) {
            for (int c = 0; c < 6; c++) {
                int connection = c;
                refuses(ARGUMENT, "here(" + c + ", " + bad + ")", x -> x.here(connection, bad));
            }
        }
        for (int c : new int[] {2, 3, 4, 5}) {
            refuses(STATE, "here(" + c + ", 1)", x -> x.here(c, 1));
        }
    }

    private static void gone() {
        for (int bad : Check.NO_CONNECTIONS) {
            refuses(ARGUMENT, "gone(" + bad + ")", x -> x.gone(bad));
        }
        for (int c : new int[] {1, 2, 3, 4, 5}) {
            refuses(STATE, "gone(" + c + ")", x -> x.gone(c));
        }
    }

    private static void close() {
        for (int bad : Check.NO_CONNECTIONS) {
            refuses(ARGUMENT, "close(" + bad + ")", x -> x.close(bad));
        }
        refuses(STATE, "close(5)", x -> x.close(5));
    }

    private static void message() {
        for (int bad : Check.NO_CONNECTIONS) {
            refuses(ARGUMENT, "message(" + bad + ", 0, 0, 5)", x -> x.message(bad, 0, 0, 5));
        }
        for (int c = 0; c < 6; c++) {
            int connection = c;
            for (int bad : Check.NO_ACCOUNTS) {
                refuses(ARGUMENT, "message(" + c + ", " + bad + ", -1, 5)", x -> x.message(connection, bad, -1, 5));
            }
            for (int bad : beside(-1, 2)) {
                refuses(ARGUMENT, "message(" + c + ", 0, " + bad + ", 5)", x -> x.message(connection, 0, bad, 5));
            }
        }
        for (int c : new int[] {2, 3, 4, 5}) {
            refuses(STATE, "message(" + c + ", 0, -1, 5)", x -> x.message(c, 0, -1, 5));
            refuses(STATE, "message(" + c + ", 7, 2, 5)", x -> x.message(c, 7, 2, 5));
        }
    }

    private static void subscribe() {
        for (int bad : Check.NO_CONNECTIONS) {
            refuses(ARGUMENT, "subscribe(" + bad + ", 1, 4)", x -> x.subscribe(bad, 1, 4));
        }
        for (int c = 0; c < 6; c++) {
            int connection = c;
            for (int bad : Check.NO_ACCOUNTS) {
                refuses(ARGUMENT, "subscribe(" + c + ", " + bad + ", 4)", x -> x.subscribe(connection, bad, 4));
            }
            for (int bad : beside(4, 7)) {
                refuses(ARGUMENT, "subscribe(" + c + ", 4, " + bad + ")", x -> x.subscribe(connection, 4, bad));
            }
        }
        for (int kind = 4; kind <= 7; kind++) {
            int each = kind;
            for (int c : new int[] {0, 1, 2, 3}) {
                refuses(ARGUMENT, "subscribe(" + c + ", " + c + ", " + kind + "), its own account",
                        x -> x.subscribe(c, c, each));
            }
            for (int c : new int[] {2, 3, 4, 5}) {
                refuses(STATE, "subscribe(" + c + ", 0, " + kind + ")", x -> x.subscribe(c, 0, each));
            }
        }
    }

    private static void take() {
        for (int bad : Check.NO_CONNECTIONS) {
            refuses(ARGUMENT, "take(" + bad + ")", x -> x.take(bad));
        }
        for (int c : new int[] {1, 2, 3, 4, 5}) {
            refuses(NO_ELEMENT, "take(" + c + ")", x -> x.take(c));
        }
    }

    private static void looks() {
        for (int bad : beside(0, 2)) {
            refuses(ARGUMENT, "taken(" + bad + ")", x -> x.taken(bad));
        }
        for (int bad : Check.NO_ACCOUNTS) {
            refuses(ARGUMENT, "roster(" + bad + ", 0)", x -> x.roster(bad, 0));
            refuses(ARGUMENT, "roster(0, " + bad + ")", x -> x.roster(0, bad));
        }
        for (int bad : Check.NO_CONNECTIONS) {
            refuses(ARGUMENT, "connection(" + bad + ", 0)", x -> x.connection(bad, 0));
        }
        for (int bad : beside(0, 4)) {
            refuses(ARGUMENT, "connection(0, " + bad + ")", x -> x.connection(0, bad));
        }
        for (int bad : beside(0, 11)) {
            refuses(ARGUMENT, "count(" + bad + ")", x -> x.count(bad));
        }
    }

    /** It throws nothing, but it is refused likewise: "else 0 (GRANT without IN)". */
    private static void grantWithoutIn() {
        refuses("0", "GRANT to one for which it has FROM and OUT", x -> x.subscribe(0, 1, 5));
        refuses("0", "GRANT to one for which it has no mark", x -> x.subscribe(0, 2, 5));
        refuses("0", "GRANT to one behind the link", x -> x.subscribe(0, 4, 5));
        refuses("0", "GRANT to one behind the link for which it has OUT", x -> x.subscribe(1, 5, 5));
        refuses("0", "GRANT to one that is not registered", x -> x.subscribe(1, 7, 5));
    }

    /** The one throw that changes something: "Otherwise it is OPEN again", and nothing else is changed. */
    private static void wrongProof() {
        XmppPair closed = full();
        closed.close(3);
        String untouched = reveal(closed);
        int right = Check.proofFor(Check.PASSWORD, CHALLENGE_OF_3);
        for (int wrong : new int[] {right - 1, right + 1, right - 10007, right + 10007, Integer.MIN_VALUE, Integer.MAX_VALUE}) {
            XmppPair x = full();
            Check.same("prove(3, " + wrong + ")", Check.outcome(() -> x.prove(3, wrong)), WRONG_PROOF);
            Check.answers("stage behind a wrong proof", 1, () -> x.connection(3, 0));
            Check.answers("account behind a wrong proof", -1, () -> x.connection(3, 1));
            Check.badState("the right proof behind a wrong one", () -> x.prove(3, right));
            x.close(3);
            Check.same("the object behind prove(3, " + wrong + ")", reveal(x), untouched);
        }
        XmppPair x = full();
        x.prove(3, right);
        Check.answers("the next challenge", NEXT_CHALLENGE, () -> x.login(4, 0));
    }
}
