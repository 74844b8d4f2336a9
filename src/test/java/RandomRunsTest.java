import java.util.Random;
import java.util.function.IntSupplier;

/** Runs of 512 calls, always the same ones, whose answers must be those of LiteralModel. */
final class RandomRunsTest {
    private static final int RUNS = 3000;
    private static final int CALLS = 512;

    private final Random random;
    private final XmppPair x = new XmppPair();
    private final LiteralModel model = new LiteralModel();
    private final int accounts;
    private final int run;

    private RandomRunsTest(int run) {
        this.run = run;
        random = new Random(run);
        accounts = 2 + random.nextInt(7);
    }

    public static void main(String[] args) {
        for (int run = 0; run < RUNS; run++) {
            RandomRunsTest test = new RandomRunsTest(run);
            for (int call = 0; call < CALLS; call++) {
                test.oneCall(call);
            }
        }
        Check.finish();
    }

    private void both(String what, IntSupplier program, IntSupplier due) {
        Check.same("run " + run + ": " + what, Check.outcome(program), Check.outcome(due));
    }

    /** A number of a range, or now and then one beside it. */
    private int about(int least, int greatest) {
        if (random.nextInt(60) == 0) {
            int[] beside = {least - 1, greatest + 1, Integer.MIN_VALUE, Integer.MAX_VALUE};
            return beside[random.nextInt(4)];
        }
        return least + random.nextInt(greatest - least + 1);
    }

    /** Few accounts in some runs, so that they meet often; both servers in every run. */
    private int someAccount() {
        if (random.nextInt(20) == 0) {
            return about(0, 7);
        }
        int drawn = random.nextInt(accounts);
        return drawn % 2 == 0 ? drawn / 2 : 7 - drawn / 2;
    }

    private void oneCall(int call) {
        int connection = about(0, 5);
        if (random.nextInt(3) == 0) {
            look(connection);
        } else if (connection >= 0 && connection < 6 && model.connection(connection, 0) < 4) {
            comeIn(connection);
        } else {
            act(connection, call);
        }
    }

    private void comeIn(int connection) {
        int account = someAccount();
        int stage = model.connection(connection, 0);
        int next = random.nextInt(12) == 0 ? random.nextInt(5) : stage;
        if (random.nextInt(8) == 0) {
            int password = about(0, 9999);
            both("register(" + account + ", " + password + ")",
                    () -> x.register(account, password), () -> model.register(account, password));
        } else if (next == 0) {
            both("connect(" + connection + ")", () -> x.connect(connection), () -> model.connect(connection));
        } else if (next == 1) {
            both("login(" + connection + ", " + account + ")",
                    () -> x.login(connection, account), () -> model.login(connection, account));
        } else if (next == 2) {
            int proof = random.nextInt(10) == 0 ? about(0, 10006) : model.rightProof(connection);
            both("prove(" + connection + ", " + proof + ")",
                    () -> x.prove(connection, proof), () -> model.prove(connection, proof));
        } else if (next == 3) {
            int resource = about(0, 2);
            both("bind(" + connection + ", " + resource + ")",
                    () -> x.bind(connection, resource), () -> model.bind(connection, resource));
        } else {
            act(connection, 0);
        }
    }

    private void act(int connection, int call) {
        int account = someAccount();
        int kind = random.nextInt(24);
        if (kind < 5) {
            int priority = about(-3, 3);
            both("here(" + connection + ", " + priority + ")",
                    () -> x.here(connection, priority), () -> model.here(connection, priority));
        } else if (kind < 7) {
            both("gone(" + connection + ")", () -> x.gone(connection), () -> model.gone(connection));
        } else if (kind < 8) {
            both("close(" + connection + ")", () -> x.close(connection), () -> model.close(connection));
        } else if (kind < 14) {
            int resource = about(-1, 2);
            both("message(" + connection + ", " + account + ", " + resource + ", " + call + ")",
                    () -> x.message(connection, account, resource, call),
                    () -> model.message(connection, account, resource, call));
        } else if (kind < 22) {
            int stanza = about(4, 7);
            both("subscribe(" + connection + ", " + account + ", " + stanza + ")",
                    () -> x.subscribe(connection, account, stanza),
                    () -> model.subscribe(connection, account, stanza));
        } else {
            boolean up = random.nextInt(2) == 0;
            both("link(" + up + ")", () -> x.link(up), () -> model.link(up));
        }
    }

    private void look(int connection) {
        int account = someAccount();
        int kind = random.nextInt(10);
        if (kind < 3) {
            both("take(" + connection + ")", () -> x.take(connection), () -> model.take(connection));
        } else if (kind < 5) {
            int what = about(0, 2);
            both("taken(" + what + ")", () -> x.taken(what), () -> model.taken(what));
        } else if (kind < 7) {
            int other = someAccount();
            both("roster(" + account + ", " + other + ")",
                    () -> x.roster(account, other), () -> model.roster(account, other));
        } else if (kind < 9) {
            int what = about(0, 4);
            both("connection(" + connection + ", " + what + ")",
                    () -> x.connection(connection, what), () -> model.connection(connection, what));
        } else {
            int what = about(0, 11);
            both("count(" + what + ")", () -> x.count(what), () -> model.count(what));
        }
    }
}
