import java.util.NoSuchElementException;

/** Two servers for messages and presence, with a link between them that may be down. */
public final class XmppPair {
    private static final int ACCOUNTS = 8;
    private static final int ACCOUNTS_PER_SERVER = 4;
    private static final int CONNECTIONS = 6;
    private static final int RESOURCES = 3;
    private static final int GREATEST_PASSWORD = 9999;
    private static final int LEAST_PRIORITY = -3;
    private static final int GREATEST_PRIORITY = 3;
    private static final int NONE = -1;
    private static final int KEPT_FOR_FIRST = 4;

    private static final int INBOX_ROOM = 10;
    private static final int KEPT_ROOM = 4;
    private static final int WAITING_ROOM = 8;

    private static final int FIRST_CHALLENGE = 4242;
    private static final int CHALLENGE_STEP = 7919;
    private static final int CHALLENGES = 10000;
    private static final int PROOF_FACTOR = 31;
    private static final int PROOFS = 10007;

    private static final int CLOSED = 0;
    private static final int OPEN = 1;
    private static final int CHALLENGED = 2;
    private static final int KNOWN = 3;
    private static final int BOUND = 4;

    private static final int MESSAGE = 1;
    private static final int HERE = 2;
    private static final int GONE = 3;
    private static final int ASK = 4;
    private static final int GRANT = 5;
    private static final int LEAVE = 6;
    private static final int DENY = 7;
    private static final int ERROR = 8;

    private static final int TO = 1;
    private static final int FROM = 2;
    private static final int OUT = 4;
    private static final int IN = 8;

    private final Account[] accounts;
    private final Connection[] connections;
    private final StanzaQueue waiting;
    private boolean linkUp;
    private int nextChallenge;
    private Stanza lastTaken;

    public XmppPair() {
        // One stanza fills every unused place, so that no queue ever holds a null.
        Stanza blank = new Stanza(0, NONE, NONE, 0, NONE, NONE);
        accounts = new Account[ACCOUNTS];
        for (int i = 0; i < ACCOUNTS; i++) {
            accounts[i] = new Account(blank);
        }
        connections = new Connection[CONNECTIONS];
        for (int i = 0; i < CONNECTIONS; i++) {
            connections[i] = new Connection(blank);
        }
        waiting = new StanzaQueue(WAITING_ROOM, blank);
        linkUp = true;
        nextChallenge = FIRST_CHALLENGE;
        lastTaken = null;
    }

    public int register(int account, int password) throws IllegalArgumentException, IllegalStateException {
        checkArgument(isAccount(account) && password >= 0 && password <= GREATEST_PASSWORD);
        Account registering = accounts[account];
        checkState(!registering.registered);
        registering.registered = true;
        registering.password = password;
        return 1;
    }

    public int connect(int connection) throws IllegalArgumentException, IllegalStateException {
        checkArgument(isConnection(connection));
        Connection opening = connections[connection];
        checkState(opening.stage == CLOSED);
        opening.stage = OPEN;
        opening.inbox.clear();
        return 1;
    }

    public int login(int connection, int account) throws IllegalArgumentException, IllegalStateException {
        checkArgument(isConnection(connection) && isAccount(account));
        Connection naming = connections[connection];
        checkState(naming.stage == OPEN);
        naming.stage = CHALLENGED;
        naming.account = account;
        naming.challenge = nextChallenge;
        nextChallenge = (nextChallenge + CHALLENGE_STEP) % CHALLENGES;
        return naming.challenge;
    }

    public int prove(int connection, int proof)
            throws IllegalArgumentException, IllegalStateException, UnsupportedOperationException {
        checkArgument(isConnection(connection));
        Connection proving = connections[connection];
        checkState(proving.stage == CHALLENGED);
        if (!isRightProof(proving, proof)) {
            proving.stage = OPEN;
            proving.account = NONE;
            throw new UnsupportedOperationException();
        }
        proving.stage = KNOWN;
        return 1;
    }

    public int bind(int connection, int resource) throws IllegalArgumentException, IllegalStateException {
        checkArgument(isConnection(connection) && resource >= 0 && resource < RESOURCES);
        Connection binding = connections[connection];
        checkState(binding.stage == KNOWN);
        Connection holder = boundWith(binding.account, resource);
        if (holder != null) {
            shut(holder);
        }
        binding.stage = BOUND;
        binding.resource = resource;
        return holder != null ? 1 : 0;
    }

    public int here(int connection, int priority) throws IllegalArgumentException, IllegalStateException {
        checkArgument(isConnection(connection) && priority >= LEAST_PRIORITY && priority <= GREATEST_PRIORITY);
        Connection coming = connections[connection];
        checkState(coming.stage == BOUND);
        boolean wasAvailable = coming.available;
        coming.available = true;
        coming.priority = priority;
        sendToWatchers(coming, HERE);
        if (!wasAvailable) {
            showOthers(coming);
            if (priority >= 0) {
                handOverKept(coming);
            }
        }
        return coming.inbox.size;
    }

    public int gone(int connection) throws IllegalArgumentException, IllegalStateException {
        checkArgument(isConnection(connection));
        Connection going = connections[connection];
        checkState(going.available);
        going.available = false;
        sendToWatchers(going, GONE);
        return 1;
    }

    public int close(int connection) throws IllegalArgumentException, IllegalStateException {
        checkArgument(isConnection(connection));
        Connection closing = connections[connection];
        checkState(closing.stage != CLOSED);
        int stageBefore = closing.stage;
        shut(closing);
        return stageBefore;
    }

    public int message(int connection, int account, int resource, int body)
            throws IllegalArgumentException, IllegalStateException {
        checkArgument(isConnection(connection) && isAccount(account) && resource >= NONE && resource < RESOURCES);
        Connection sender = connections[connection];
        checkState(sender.stage == BOUND);
        send(new Stanza(MESSAGE, sender.account, sender.resource, body, account, resource));
        return 1;
    }

    public int subscribe(int connection, int account, int kind) throws IllegalArgumentException, IllegalStateException {
        checkArgument(isConnection(connection) && isAccount(account) && kind >= ASK && kind <= DENY);
        Connection sender = connections[connection];
        checkArgument(sender.account != account);
        checkState(sender.stage == BOUND);
        Account own = accounts[sender.account];
        if (kind == GRANT && !own.hasAny(account, IN)) {
            return 0;
        }
        if (kind == DENY && own.hasAny(account, FROM)) {
            sendPresences(sender.account, account, GONE);
        }
        changeOwnMarks(own, account, kind);
        send(new Stanza(kind, sender.account, NONE, 0, account, NONE));
        if (kind == GRANT) {
            sendPresences(sender.account, account, HERE);
        }
        return 1;
    }

    public int link(boolean up) {
        linkUp = up;
        if (!up) {
            return 0;
        }
        int arriving = waiting.size;
        for (int i = 0; i < arriving; i++) {
            arrive(waiting.removeFirst());
        }
        return arriving;
    }

    public int take(int connection) throws IllegalArgumentException, NoSuchElementException {
        checkArgument(isConnection(connection));
        StanzaQueue inbox = connections[connection].inbox;
        if (inbox.size == 0) {
            throw new NoSuchElementException();
        }
        Stanza first = inbox.removeFirst();
        lastTaken = first;
        return first.kind;
    }

    public int taken(int what) throws NoSuchElementException, IllegalArgumentException {
        Stanza last = lastTaken;
        if (last == null) {
            throw new NoSuchElementException();
        }
        switch (what) {
            case 0:
                return last.from;
            case 1:
                return last.resource;
            case 2:
                return last.value;
            default:
                throw new IllegalArgumentException();
        }
    }

    public int roster(int account, int other) throws IllegalArgumentException {
        checkArgument(isAccount(account) && isAccount(other));
        return accounts[account].marks[other];
    }

    public int connection(int connection, int what) throws IllegalArgumentException {
        checkArgument(isConnection(connection));
        Connection asked = connections[connection];
        switch (what) {
            case 0:
                return asked.stage;
            case 1:
                return asked.account;
            case 2:
                return asked.resource;
            case 3:
                return asked.available ? 1 : 0;
            case 4:
                return asked.inbox.size;
            default:
                throw new IllegalArgumentException();
        }
    }

    public int count(int what) throws IllegalArgumentException {
        switch (what) {
            case 0:
                return keptForAll();
            case 1:
                return waiting.size;
            case 2:
                return lostByAll();
            case 3:
                return linkUp ? 1 : 0;
            default:
                checkArgument(what >= KEPT_FOR_FIRST && what < KEPT_FOR_FIRST + ACCOUNTS);
                return accounts[what - KEPT_FOR_FIRST].kept.size;
        }
    }

    private static void checkArgument(boolean allowed) {
        if (!allowed) {
            throw new IllegalArgumentException();
        }
    }

    private static void checkState(boolean allowed) {
        if (!allowed) {
            throw new IllegalStateException();
        }
    }

    private static boolean isAccount(int account) {
        return account >= 0 && account < ACCOUNTS;
    }

    private static boolean isConnection(int connection) {
        return connection >= 0 && connection < CONNECTIONS;
    }

    private static boolean onOneServer(int account, int other) {
        return (account < ACCOUNTS_PER_SERVER) == (other < ACCOUNTS_PER_SERVER);
    }

    private boolean canReach(int account, int other) {
        return linkUp || onOneServer(account, other);
    }

    private boolean isRightProof(Connection proving, int proof) {
        Account claimed = accounts[proving.account];
        return claimed.registered
                && proof == (claimed.password * PROOF_FACTOR + proving.challenge) % PROOFS;
    }

    /** The connection that is BOUND with an account and a resource, or null. */
    private Connection boundWith(int account, int resource) {
        for (Connection each : connections) {
            if (each.stage == BOUND && each.account == account && each.resource == resource) {
                return each;
            }
        }
        return null;
    }

    private void shut(Connection closing) {
        if (closing.available) {
            closing.available = false;
            sendToWatchers(closing, GONE);
        }
        // The inbox stays as it is: the document empties it when the connection is opened again.
        closing.stage = CLOSED;
        closing.account = NONE;
        closing.resource = NONE;
    }

    private static Stanza presenceOf(Connection shown, int kind, int to) {
        int value = kind == HERE ? shown.priority : 0;
        return new Stanza(kind, shown.account, shown.resource, value, to, NONE);
    }

    private void sendToWatchers(Connection shown, int kind) {
        Account own = accounts[shown.account];
        for (int other = 0; other < ACCOUNTS; other++) {
            if (own.hasAny(other, FROM)) {
                send(presenceOf(shown, kind, other));
            }
        }
    }

    private void sendPresences(int account, int other, int kind) {
        for (Connection each : connections) {
            if (each.isAvailableFor(account)) {
                send(presenceOf(each, kind, other));
            }
        }
    }

    private void showOthers(Connection coming) {
        Account own = accounts[coming.account];
        for (int other = 0; other < ACCOUNTS; other++) {
            if (own.hasAny(other, TO) && canReach(coming.account, other)) {
                showConnectionsOf(other, coming);
            }
        }
    }

    private void showConnectionsOf(int other, Connection coming) {
        for (Connection each : connections) {
            if (each.isAvailableFor(other)) {
                coming.inbox.add(presenceOf(each, HERE, coming.account));
            }
        }
    }

    private void handOverKept(Connection coming) {
        StanzaQueue kept = accounts[coming.account].kept;
        int handed = kept.size;
        for (int i = 0; i < handed; i++) {
            coming.inbox.add(kept.removeFirst());
        }
    }

    private static void changeOwnMarks(Account own, int other, int kind) {
        switch (kind) {
            case ASK:
                if (!own.hasAny(other, TO)) {
                    own.addMark(other, OUT);
                }
                break;
            case GRANT:
                own.addMark(other, FROM);
                own.dropMarks(other, IN);
                break;
            case LEAVE:
                own.dropMarks(other, TO | OUT);
                break;
            case DENY:
                own.dropMarks(other, FROM | IN);
                break;
            default:
                break;
        }
    }

    private void send(Stanza stanza) {
        if (canReach(stanza.from, stanza.to)) {
            arrive(stanza);
        } else if (!waiting.isFull()) {
            waiting.add(stanza);
        } else if (stanza.kind == MESSAGE) {
            returnError(stanza);
        }
    }

    /**
     * Gives the sender's account an ERROR for a message. It needs no sending: either the message
     * never left its server, or it has just arrived, and then the way back is open too.
     */
    private void returnError(Stanza refused) {
        giveToAvailable(new Stanza(ERROR, refused.to, NONE, refused.value, refused.from, NONE));
    }

    private void giveToAvailable(Stanza stanza) {
        for (Connection each : connections) {
            if (each.isAvailableFor(stanza.to)) {
                each.inbox.add(stanza);
            }
        }
    }

    private void arrive(Stanza stanza) {
        switch (stanza.kind) {
            case MESSAGE:
                messageArrives(stanza);
                break;
            case ASK:
                askArrives(stanza);
                break;
            case GRANT:
                grantArrives(stanza);
                break;
            case LEAVE:
                endingArrives(stanza, FROM | IN);
                break;
            case DENY:
                endingArrives(stanza, TO | OUT);
                break;
            case HERE:
            case GONE:
                if (accounts[stanza.to].hasAny(stanza.from, TO)) {
                    giveToAvailable(stanza);
                }
                break;
            default:
                // No other kind is ever sent: returnError tells why an ERROR is not.
                break;
        }
    }

    private void messageArrives(Stanza stanza) {
        Connection addressed = boundWith(stanza.to, stanza.target);
        if (addressed != null && addressed.available) {
            addressed.inbox.add(stanza);
            return;
        }
        int priority = greatestPriority(stanza.to);
        Account receiver = accounts[stanza.to];
        if (priority >= 0) {
            giveToPriority(stanza, priority);
        } else if (receiver.registered && !receiver.kept.isFull()) {
            receiver.kept.add(stanza);
        } else {
            returnError(stanza);
        }
    }

    /** The greatest priority of an account's AVAILABLE connections that is 0 or more, or NONE. */
    private int greatestPriority(int account) {
        int greatest = NONE;
        for (Connection each : connections) {
            if (each.isAvailableFor(account) && each.priority > greatest) {
                greatest = each.priority;
            }
        }
        return greatest;
    }

    private void giveToPriority(Stanza stanza, int priority) {
        for (Connection each : connections) {
            if (each.isAvailableFor(stanza.to) && each.priority == priority) {
                each.inbox.add(stanza);
            }
        }
    }

    private void askArrives(Stanza stanza) {
        Account asked = accounts[stanza.to];
        if (asked.hasAny(stanza.from, FROM)) {
            // The way that the ASK has just come is open, so the answer arrives at once.
            grantArrives(new Stanza(GRANT, stanza.to, NONE, 0, stanza.from, NONE));
        } else if (asked.registered) {
            asked.addMark(stanza.from, IN);
            giveToAvailable(stanza);
        }
    }

    private void grantArrives(Stanza stanza) {
        Account granted = accounts[stanza.to];
        if (granted.hasAny(stanza.from, OUT)) {
            granted.addMark(stanza.from, TO);
            granted.dropMarks(stanza.from, OUT);
            giveToAvailable(stanza);
        }
    }

    private void endingArrives(Stanza stanza, int ended) {
        Account told = accounts[stanza.to];
        if (told.hasAny(stanza.from, ended)) {
            told.dropMarks(stanza.from, ended);
            giveToAvailable(stanza);
        }
    }

    private int keptForAll() {
        int kept = 0;
        for (Account each : accounts) {
            kept += each.kept.size;
        }
        return kept;
    }

    private int lostByAll() {
        int lost = 0;
        for (Connection each : connections) {
            lost += each.inbox.lost;
        }
        return lost;
    }

    /** What is sent: the four parts that its receiver sees, and whom it is for. */
    private static final class Stanza {
        final int kind;
        final int from;
        final int resource;
        final int value;
        final int to;
        final int target;

        Stanza(int kind, int from, int resource, int value, int to, int target) {
            this.kind = kind;
            this.from = from;
            this.resource = resource;
            this.value = value;
            this.to = to;
            this.target = target;
        }
    }

    /** Stanzas in the order in which they came, as many as there is room for. */
    private static final class StanzaQueue {
        final Stanza[] places;
        int size;
        int lost;

        StanzaQueue(int room, Stanza blank) {
            places = new Stanza[room];
            for (int i = 0; i < room; i++) {
                places[i] = blank;
            }
            size = 0;
            lost = 0;
        }

        boolean isFull() {
            return size >= places.length;
        }

        void add(Stanza stanza) {
            if (size < places.length) {
                places[size] = stanza;
                size++;
            } else {
                lost++;
            }
        }

        /** Its callers look at the size first: an empty queue has no stanza of its own to give. */
        Stanza removeFirst() {
            Stanza first = places[0];
            for (int i = 1; i < size; i++) {
                places[i - 1] = places[i];
            }
            if (size > 0) {
                size--;
            }
            return first;
        }

        void clear() {
            size = 0;
        }
    }

    private static final class Account {
        final int[] marks;
        final StanzaQueue kept;
        boolean registered;
        int password;

        Account(Stanza blank) {
            marks = new int[ACCOUNTS];
            kept = new StanzaQueue(KEPT_ROOM, blank);
            registered = false;
            password = 0;
        }

        boolean hasAny(int other, int wanted) {
            return (marks[other] & wanted) != 0;
        }

        void addMark(int other, int mark) {
            marks[other] |= mark;
        }

        void dropMarks(int other, int dropped) {
            marks[other] &= ~dropped;
        }
    }

    private static final class Connection {
        final StanzaQueue inbox;
        int stage;
        int account;
        int resource;
        int priority;
        int challenge;
        boolean available;

        Connection(Stanza blank) {
            inbox = new StanzaQueue(INBOX_ROOM, blank);
            stage = CLOSED;
            account = NONE;
            resource = NONE;
            priority = 0;
            challenge = 0;
            available = false;
        }

        boolean isAvailableFor(int wanted) {
            return available && account == wanted;
        }
    }
}
