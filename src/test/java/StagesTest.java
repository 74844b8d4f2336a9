import java.util.function.ToIntBiFunction;

/**
 * The terms' sentence on the STAGE of a connection, 0 CLOSED to 4 BOUND, and AVAILABLE: what every
 * call that asks for a stage does in each of them, on the first connection and on the last.
 */
final class StagesTest {
    private static final int AVAILABLE = 5;
    private static final int ACCOUNT = 2;
    private static final int FIRST_CHALLENGE = 4242;
    private static final int RIGHT_PROOF = Check.proofFor(Check.PASSWORD, FIRST_CHALLENGE);
    private static final String BAD = "IllegalStateException";
    private static final String EMPTY = "NoSuchElementException";

    public static void main(String[] args) {
        for (int c = 0; c < 6; c++) {
            everyCall(c);
        }
        Check.finish();
    }

    private static XmppPair at(int connection, int stage) {
        XmppPair x = Check.withAccounts();
        if (stage >= 1) {
            x.connect(connection);
        }
        if (stage >= 2) {
            x.login(connection, ACCOUNT);
        }
        if (stage >= 3) {
            x.prove(connection, RIGHT_PROOF);
        }
        if (stage >= 4) {
            x.bind(connection, 1);
        }
        if (stage >= AVAILABLE) {
            x.here(connection, 0);
        }
        return x;
    }

    /** Stage, account, resource and whether it is AVAILABLE. */
    private static String shown(XmppPair x, int connection) {
        return x.connection(connection, 0) + "," + x.connection(connection, 1) + ","
                + x.connection(connection, 2) + "," + x.connection(connection, 3);
    }

    private static String shownAt(int stage) {
        switch (stage) {
            case 0:
                return "0,-1,-1,0";
            case 1:
                return "1,-1,-1,0";
            case 2:
                return "2,2,-1,0";
            case 3:
                return "3,2,-1,0";
            case 4:
                return "4,2,1,0";
            default:
                return "4,2,1,1";
        }
    }

    /** One call at the stages 0 to 5: its answers, and the stage behind it where it is not refused. */
    private static void call(String name, int connection, ToIntBiFunction<XmppPair, Integer> call, int behind,
            String... want) {
        for (int stage = 0; stage <= AVAILABLE; stage++) {
            XmppPair x = at(connection, stage);
            String what = name + " of " + connection + " at stage " + stage;
            Check.same(what, Check.outcome(() -> call.applyAsInt(x, connection)), want[stage]);
            boolean stays = behind < 0 || want[stage].endsWith("Exception");
            Check.same("the connection behind " + what, shown(x, connection), shownAt(stays ? stage : behind));
            for (int other = 0; other < 6; other++) {
                if (other != connection) {
                    Check.same("connection " + other + " behind " + what, shown(x, other), shownAt(0));
                }
            }
        }
    }

    private static void everyCall(int connection) {
        call("connect", connection, (x, c) -> x.connect(c), 1, "1", BAD, BAD, BAD, BAD, BAD);
        call("login", connection, (x, c) -> x.login(c, ACCOUNT), 2, BAD, "4242", BAD, BAD, BAD, BAD);
        call("prove", connection, (x, c) -> x.prove(c, RIGHT_PROOF), 3, BAD, BAD, "1", BAD, BAD, BAD);
        call("bind", connection, (x, c) -> x.bind(c, 1), 4, BAD, BAD, BAD, "0", BAD, BAD);
        call("here", connection, (x, c) -> x.here(c, 0), AVAILABLE, BAD, BAD, BAD, BAD, "0", "0");
        call("gone", connection, (x, c) -> x.gone(c), 4, BAD, BAD, BAD, BAD, BAD, "1");
        call("close", connection, (x, c) -> x.close(c), 0, BAD, "1", "2", "3", "4", "4");
        call("message", connection, (x, c) -> x.message(c, 5, -1, 9), -1, BAD, BAD, BAD, BAD, "1", "1");
        call("subscribe", connection, (x, c) -> x.subscribe(c, 5, 4), -1, BAD, BAD, BAD, BAD, "1", "1");
        call("take", connection, (x, c) -> x.take(c), -1, EMPTY, EMPTY, EMPTY, EMPTY, EMPTY, EMPTY);
    }
}
