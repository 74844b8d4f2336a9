import java.util.ArrayDeque;
import java.util.ArrayList;
import java.util.NoSuchElementException;

/**
 * The document once more, sentence by sentence and without any thrift, for RandomRunsTest to
 * compare with: every answer to a stanza is SENT, as the document says.
 */
final class LiteralModel {
    /** kind, from, resource, value; then to and the resource that it is for. */
    private static final class Item {
        final int[] parts;

        Item(int... parts) {
            this.parts = parts;
        }
    }

    private static final class Line {
        int stage = 0;
        int account = -1;
        int resource = -1;
        boolean available = false;
        int priority = 0;
        int challenge = 0;
        ArrayDeque<Item> inbox = new ArrayDeque<>();
    }

    private final Integer[] passwords = new Integer[8];
    private final boolean[][][] marks = new boolean[8][8][4];
    private final ArrayList<ArrayDeque<Item>> kept = new ArrayList<>();
    private final Line[] lines = new Line[6];
    private final ArrayDeque<Item> waiting = new ArrayDeque<>();
    private boolean up = true;
    private int lost = 0;
    private long challenges = 0;
    private Item last = null;

    LiteralModel() {
        for (int i = 0; i < 8; i++) {
            kept.add(new ArrayDeque<>());
        }
        for (int i = 0; i < 6; i++) {
            lines[i] = new Line();
        }
    }

    private static void range(int value, int least, int greatest) {
        if (value < least || value > greatest) {
            throw new IllegalArgumentException();
        }
    }

    private static void state(boolean good) {
        if (!good) {
            throw new IllegalStateException();
        }
    }

    private void get(Line line, Item item) {
        if (line.inbox.size() == 10) {
            lost++;
        } else {
            line.inbox.add(item);
        }
    }

    private void allGet(int account, Item item) {
        for (Line line : lines) {
            if (line.available && line.account == account) {
                get(line, item);
            }
        }
    }

    private void send(Item item) {
        int from = item.parts[1];
        int to = item.parts[4];
        if (from / 4 == to / 4 || up) {
            arrive(item);
        } else if (waiting.size() < 8) {
            waiting.add(item);
        } else if (item.parts[0] == 1) {
            allGet(from, new Item(8, to, -1, item.parts[3], from, -1));
        }
    }

    private void arrive(Item item) {
        int from = item.parts[1];
        int to = item.parts[4];
        boolean[] mine = marks[to][from];
        switch (item.parts[0]) {
            case 1 -> messageArrives(item, from, to);
            case 2, 3 -> {
                if (mine[0]) {
                    allGet(to, item);
                }
            }
            case 4 -> {
                if (mine[1]) {
                    send(new Item(5, to, -1, 0, from, -1));
                } else if (passwords[to] != null) {
                    mine[3] = true;
                    allGet(to, item);
                }
            }
            case 5 -> {
                if (mine[2]) {
                    mine[0] = true;
                    mine[2] = false;
                    allGet(to, item);
                }
            }
            case 6 -> {
                if (mine[1] || mine[3]) {
                    mine[1] = false;
                    mine[3] = false;
                    allGet(to, item);
                }
            }
            case 7 -> {
                if (mine[0] || mine[2]) {
                    mine[0] = false;
                    mine[2] = false;
                    allGet(to, item);
                }
            }
            default -> allGet(to, item);
        }
    }

    private void messageArrives(Item item, int from, int to) {
        for (Line line : lines) {
            if (line.stage == 4 && line.account == to && line.resource == item.parts[5] && line.available) {
                get(line, item);
                return;
            }
        }
        for (int priority = 3; priority >= 0; priority--) {
            boolean found = false;
            for (Line line : lines) {
                if (line.available && line.account == to && line.priority == priority) {
                    get(line, item);
                    found = true;
                }
            }
            if (found) {
                return;
            }
        }
        if (passwords[to] == null || kept.get(to).size() == 4) {
            send(new Item(8, to, -1, item.parts[3], from, -1));
        } else {
            kept.get(to).add(item);
        }
    }

    int register(int account, int password) {
        range(account, 0, 7);
        range(password, 0, 9999);
        state(passwords[account] == null);
        passwords[account] = password;
        return 1;
    }

    int connect(int connection) {
        range(connection, 0, 5);
        state(lines[connection].stage == 0);
        lines[connection].stage = 1;
        lines[connection].inbox.clear();
        return 1;
    }

    int login(int connection, int account) {
        range(connection, 0, 5);
        range(account, 0, 7);
        Line line = lines[connection];
        state(line.stage == 1);
        line.stage = 2;
        line.account = account;
        line.challenge = (int) ((7919 * challenges + 4242) % 10000);
        challenges++;
        return line.challenge;
    }

    int rightProof(int connection) {
        Line line = lines[connection];
        return line.account < 0 || passwords[line.account] == null
                ? line.challenge : (passwords[line.account] * 31 + line.challenge) % 10007;
    }

    int prove(int connection, int proof) {
        range(connection, 0, 5);
        Line line = lines[connection];
        state(line.stage == 2);
        if (passwords[line.account] != null && proof == rightProof(connection)) {
            line.stage = 3;
            return 1;
        }
        line.stage = 1;
        line.account = -1;
        throw new UnsupportedOperationException();
    }

    int bind(int connection, int resource) {
        range(connection, 0, 5);
        range(resource, 0, 2);
        Line line = lines[connection];
        state(line.stage == 3);
        int answer = 0;
        for (int c = 0; c < 6; c++) {
            if (lines[c].stage == 4 && lines[c].account == line.account && lines[c].resource == resource) {
                close(c);
                answer = 1;
            }
        }
        line.stage = 4;
        line.resource = resource;
        return answer;
    }

    int here(int connection, int priority) {
        range(connection, 0, 5);
        range(priority, -3, 3);
        Line line = lines[connection];
        state(line.stage == 4);
        boolean was = line.available;
        line.available = true;
        line.priority = priority;
        for (int other = 0; other < 8; other++) {
            if (marks[line.account][other][1]) {
                send(new Item(2, line.account, line.resource, priority, other, -1));
            }
        }
        for (int other = 0; other < 8 && !was; other++) {
            if (marks[line.account][other][0] && (other / 4 == line.account / 4 || up)) {
                for (Line shown : lines) {
                    if (shown.available && shown.account == other) {
                        get(line, new Item(2, other, shown.resource, shown.priority));
                    }
                }
            }
        }
        while (!was && priority >= 0 && !kept.get(line.account).isEmpty()) {
            get(line, kept.get(line.account).remove());
        }
        return line.inbox.size();
    }

    int gone(int connection) {
        range(connection, 0, 5);
        Line line = lines[connection];
        state(line.available);
        line.available = false;
        for (int other = 0; other < 8; other++) {
            if (marks[line.account][other][1]) {
                send(new Item(3, line.account, line.resource, 0, other, -1));
            }
        }
        return 1;
    }

    int close(int connection) {
        range(connection, 0, 5);
        Line line = lines[connection];
        int before = line.stage;
        state(before != 0);
        if (line.available) {
            gone(connection);
        }
        ArrayDeque<Item> inbox = line.inbox;
        lines[connection] = new Line();
        lines[connection].inbox = inbox;
        return before;
    }

    int message(int connection, int account, int resource, int body) {
        range(connection, 0, 5);
        range(account, 0, 7);
        range(resource, -1, 2);
        Line line = lines[connection];
        state(line.stage == 4);
        send(new Item(1, line.account, line.resource, body, account, resource));
        return 1;
    }

    int subscribe(int connection, int account, int kind) {
        range(connection, 0, 5);
        range(account, 0, 7);
        range(kind, 4, 7);
        Line line = lines[connection];
        if (line.account == account) {
            throw new IllegalArgumentException();
        }
        state(line.stage == 4);
        boolean[] mine = marks[line.account][account];
        if (kind == 4 && !mine[0]) {
            mine[2] = true;
        }
        if (kind == 5) {
            if (!mine[3]) {
                return 0;
            }
            mine[1] = true;
            mine[3] = false;
        }
        if (kind == 6) {
            mine[0] = false;
            mine[2] = false;
        }
        if (kind == 7) {
            if (mine[1]) {
                sendOfAll(line.account, account, 3);
            }
            mine[1] = false;
            mine[3] = false;
        }
        send(new Item(kind, line.account, -1, 0, account, -1));
        if (kind == 5) {
            sendOfAll(line.account, account, 2);
        }
        return 1;
    }

    private void sendOfAll(int from, int to, int kind) {
        for (Line line : lines) {
            if (line.available && line.account == from) {
                send(new Item(kind, from, line.resource, kind == 2 ? line.priority : 0, to, -1));
            }
        }
    }

    int link(boolean goesUp) {
        up = goesUp;
        int arrived = 0;
        while (up && !waiting.isEmpty()) {
            arrive(waiting.remove());
            arrived++;
        }
        return arrived;
    }

    int take(int connection) {
        range(connection, 0, 5);
        if (lines[connection].inbox.isEmpty()) {
            throw new NoSuchElementException();
        }
        last = lines[connection].inbox.remove();
        return last.parts[0];
    }

    int taken(int what) {
        if (last == null) {
            throw new NoSuchElementException();
        }
        range(what, 0, 2);
        return last.parts[what + 1];
    }

    int roster(int account, int other) {
        range(account, 0, 7);
        range(other, 0, 7);
        int sum = 0;
        for (int mark = 0; mark < 4; mark++) {
            sum += marks[account][other][mark] ? 1 << mark : 0;
        }
        return sum;
    }

    int connection(int connection, int what) {
        range(connection, 0, 5);
        range(what, 0, 4);
        Line line = lines[connection];
        int[] told = {line.stage, line.account, line.resource, line.available ? 1 : 0, line.inbox.size()};
        return told[what];
    }

    int count(int what) {
        range(what, 0, 11);
        int all = 0;
        for (ArrayDeque<Item> each : kept) {
            all += each.size();
        }
        int[] told = {all, waiting.size(), lost, up ? 1 : 0};
        return what < 4 ? told[what] : kept.get(what - 4).size();
    }
}
