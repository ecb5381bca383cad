/** A log of 32 positions that three clients share; ../shared/DOC.md says what each call must answer. */
public final class SharedLog {
    private static final int CLIENTS = 3;
    private static final int UNITS = 6;
    private static final int POSITIONS = 32;
    private static final int GREATEST_VALUE = 1073741823;

    private static final int ALL_UNITS = 63;
    private static final int EVEN_UNITS = 21;
    private static final int ODD_UNITS = 42;
    private static final int NO_UNITS = 0;
    private static final int NO_UNIT = -1;

    private static final int UNWRITTEN = -2;
    private static final int JUNK = -1;

    private static final int IDLE = 0;
    private static final int APPEND = 1;
    private static final int FILL = 2;
    private static final int READ = 3;
    private static final int REPLAY = 4;
    private static final int REFORM = 5;

    private static final int DONE = 1;
    private static final int STALE = 2;
    private static final int FOUND_UNWRITTEN = 3;
    private static final int LOG_FULL = 4;
    private static final int OVERTAKEN = 5;

    private static final int BEGUN = 0;
    private static final int GOES_ON = 0;
    private static final int ENDED = 1;
    private static final int NO_SUCH_CLIENT = -1;
    private static final int CLIENT_BUSY = -2;
    private static final int CLIENT_IDLE = -2;
    private static final int WRONG_ARGUMENT = -3;
    private static final int UNIT_DOWN = -3;
    private static final int NO_SURVIVOR = -4;
    private static final int NOT_THERE = -9;

    private final Unit[] units = new Unit[UNITS];
    private final Client[] clients = new Client[CLIENTS];
    private int storeEpoch = 0;
    private int storeMembers = ALL_UNITS;
    private int sequencerEpoch = 0;
    private int nextPosition = 0;

    public SharedLog() {
        for (int u = 0; u < UNITS; u++) {
            units[u] = new Unit();
        }
        for (int c = 0; c < CLIENTS; c++) {
            clients[c] = new Client();
        }
    }

    public int append(int client, int value) {
        Client c = clientAt(client);
        if (c == null) {
            return NO_SUCH_CLIENT;
        }
        if (c.kind != IDLE) {
            return CLIENT_BUSY;
        }
        if (value < 0 || value > GREATEST_VALUE) {
            return WRONG_ARGUMENT;
        }
        c.content = value;
        return c.begin(APPEND, NO_UNITS);
    }

    public int fill(int client, int position) {
        Client c = clientAt(client);
        if (c == null) {
            return NO_SUCH_CLIENT;
        }
        if (c.kind != IDLE) {
            return CLIENT_BUSY;
        }
        if (!isPosition(position)) {
            return WRONG_ARGUMENT;
        }
        c.position = position;
        c.content = JUNK;
        return c.begin(FILL, c.chainOf(position));
    }

    public int read(int client, int position) {
        Client c = clientAt(client);
        if (c == null) {
            return NO_SUCH_CLIENT;
        }
        if (c.kind != IDLE) {
            return CLIENT_BUSY;
        }
        if (!isPosition(position)) {
            return WRONG_ARGUMENT;
        }
        c.position = position;
        return c.begin(READ, highestOf(c.chainOf(position)));
    }

    public int replay(int client, int upto) {
        Client c = clientAt(client);
        if (c == null) {
            return NO_SUCH_CLIENT;
        }
        if (c.kind != IDLE) {
            return CLIENT_BUSY;
        }
        if (upto < 0 || upto > POSITIONS) {
            return WRONG_ARGUMENT;
        }
        c.position = 0;
        c.upto = upto;
        c.sum = 0;
        return c.begin(REPLAY, c.replayRoute());
    }

    public int reform(int client, int without) {
        Client c = clientAt(client);
        if (c == null) {
            return NO_SUCH_CLIENT;
        }
        if (c.kind != IDLE) {
            return CLIENT_BUSY;
        }
        if (without < 0 || without > ALL_UNITS) {
            return WRONG_ARGUMENT;
        }
        int survivors = c.members & ~without;
        if ((survivors & EVEN_UNITS) == NO_UNITS || (survivors & ODD_UNITS) == NO_UNITS) {
            return NO_SURVIVOR;
        }
        c.survivors = survivors;
        c.greatestEnd = 0;
        return c.begin(REFORM, survivors);
    }

    public int step(int client) {
        Client c = clientAt(client);
        if (c == null) {
            return NO_SUCH_CLIENT;
        }
        if (c.kind == IDLE) {
            return CLIENT_IDLE;
        }
        Unit unit = unitAt(lowestUnit(c.route));
        if (unit == null) {
            return stepWithoutUnit(c);
        }
        if (!unit.up) {
            return UNIT_DOWN;
        }
        if (unit.epoch > c.newestEpochItBears()) {
            return c.end(STALE, 0);
        }
        return stepAtUnit(c, unit);
    }

    public int refresh(int client) {
        Client c = clientAt(client);
        if (c == null) {
            return NO_SUCH_CLIENT;
        }
        if (c.kind != IDLE) {
            return CLIENT_BUSY;
        }
        takeStoreProjection(c);
        return c.epoch;
    }

    public boolean setUp(int unit, boolean up) {
        Unit u = unitAt(unit);
        if (u == null) {
            return false;
        }
        u.up = up;
        return true;
    }

    public void loseSequencer() {
        nextPosition = 0;
    }

    public int busy(int client) {
        Client c = clientAt(client);
        return c == null ? NOT_THERE : c.kind;
    }

    public int outcome(int client) {
        Client c = clientAt(client);
        return c == null ? NOT_THERE : c.outcome;
    }

    public int number(int client) {
        Client c = clientAt(client);
        return c == null ? NOT_THERE : c.number;
    }

    public int epochOf(int client) {
        Client c = clientAt(client);
        return c == null ? NOT_THERE : c.epoch;
    }

    public int membersOf(int client) {
        Client c = clientAt(client);
        return c == null ? NOT_THERE : c.members;
    }

    public int tail() {
        return nextPosition;
    }

    public int unitEpoch(int unit) {
        Unit u = unitAt(unit);
        return u == null ? NOT_THERE : u.epoch;
    }

    public int cell(int unit, int position) {
        Unit u = unitAt(unit);
        return u == null ? NOT_THERE : u.contentAt(position);
    }

    private Client clientAt(int client) {
        return client >= 0 && client < CLIENTS ? clients[client] : null;
    }

    private Unit unitAt(int unit) {
        return unit >= 0 && unit < UNITS ? units[unit] : null;
    }

    private static boolean isPosition(int position) {
        return position >= 0 && position < POSITIONS;
    }

    private static int lowestUnit(int mask) {
        for (int u = 0; u < UNITS; u++) {
            if ((mask & (1 << u)) != 0) {
                return u;
            }
        }
        return NO_UNIT;
    }

    private static int withoutLowest(int mask) {
        return mask & (mask - 1);
    }

    private static int highestOf(int mask) {
        for (int u = UNITS - 1; u >= 0; u--) {
            if ((mask & (1 << u)) != 0) {
                return 1 << u;
            }
        }
        return NO_UNITS;
    }

    // A fill or a read never comes here: every chain has a member, because reform refuses an empty stripe.
    private int stepWithoutUnit(Client c) {
        switch (c.kind) {
            case APPEND:
                return askSequencer(c);
            case REPLAY:
                return c.end(DONE, c.sum);
            default:
                return askStore(c);
        }
    }

    private static int stepAtUnit(Client c, Unit unit) {
        switch (c.kind) {
            case APPEND:
                return appendAt(c, unit);
            case FILL:
                return fillAt(c, unit);
            case READ:
                return readAt(c, unit);
            case REPLAY:
                return replayAt(c, unit);
            default:
                return sealAt(c, unit);
        }
    }

    private int askSequencer(Client c) {
        if (c.epoch != sequencerEpoch) {
            return c.end(STALE, 0);
        }
        if (nextPosition >= POSITIONS) {
            return c.end(LOG_FULL, 0);
        }
        c.position = nextPosition;
        c.route = c.chainOf(c.position);
        nextPosition++;
        return GOES_ON;
    }

    private int askStore(Client c) {
        if (storeEpoch != c.epoch) {
            return c.end(OVERTAKEN, storeEpoch);
        }
        storeEpoch = c.epoch + 1;
        storeMembers = c.survivors;
        sequencerEpoch = storeEpoch;
        nextPosition = c.greatestEnd;
        takeStoreProjection(c);
        return c.end(DONE, storeEpoch);
    }

    private void takeStoreProjection(Client c) {
        c.epoch = storeEpoch;
        c.members = storeMembers;
    }

    private static int appendAt(Client c, Unit unit) {
        boolean written = unit.contentAt(c.position) != UNWRITTEN;
        if (written && c.isAtHead()) {
            // An empty route is what sends the append back to the sequencer.
            c.route = NO_UNITS;
            return GOES_ON;
        }
        unit.writeOnce(c.position, c.content);
        return c.goAlongChain(c.position);
    }

    private static int fillAt(Client c, Unit unit) {
        unit.writeOnce(c.position, c.content);
        if (c.isAtHead()) {
            c.content = unit.contentAt(c.position);
        }
        return c.goAlongChain(c.content);
    }

    private static int readAt(Client c, Unit unit) {
        int content = unit.contentAt(c.position);
        return c.end(content == UNWRITTEN ? FOUND_UNWRITTEN : DONE, content);
    }

    private static int replayAt(Client c, Unit unit) {
        int content = unit.contentAt(c.position);
        if (content == UNWRITTEN) {
            return c.end(FOUND_UNWRITTEN, c.position);
        }
        if (content != JUNK) {
            c.sum = c.sum * 31 + content;
        }
        c.position++;
        c.route = c.replayRoute();
        return GOES_ON;
    }

    private static int sealAt(Client c, Unit unit) {
        unit.epoch = c.epoch + 1;
        c.greatestEnd = Math.max(c.greatestEnd, unit.endOfWritten());
        c.route = withoutLowest(c.route);
        return GOES_ON;
    }

    private static final class Unit {
        private int epoch = 0;
        private boolean up = true;
        private final int[] cells = new int[POSITIONS];

        private Unit() {
            for (int p = 0; p < POSITIONS; p++) {
                cells[p] = UNWRITTEN;
            }
        }

        private int contentAt(int position) {
            return isPosition(position) ? cells[position] : NOT_THERE;
        }

        private void writeOnce(int position, int content) {
            if (isPosition(position) && cells[position] == UNWRITTEN) {
                cells[position] = content;
            }
        }

        private int endOfWritten() {
            for (int p = POSITIONS - 1; p >= 0; p--) {
                if (cells[p] != UNWRITTEN) {
                    return p + 1;
                }
            }
            return 0;
        }
    }

    private static final class Client {
        private int epoch = 0;
        private int members = ALL_UNITS;
        private int kind = IDLE;
        private int outcome = 0;
        private int number = 0;

        // The units that the operation has still to ask, as a mask; the lowest one is asked next.
        private int route = NO_UNITS;
        private int position = 0;
        // What an append or a fill writes into the next unwritten cell.
        private int content = UNWRITTEN;
        private int upto = 0;
        private int sum = 0;
        private int survivors = NO_UNITS;
        private int greatestEnd = 0;

        private int begin(int newKind, int firstRoute) {
            kind = newKind;
            route = firstRoute;
            outcome = 0;
            number = 0;
            return BEGUN;
        }

        private int end(int newOutcome, int newNumber) {
            kind = IDLE;
            outcome = newOutcome;
            number = newNumber;
            return ENDED;
        }

        private int chainOf(int place) {
            return members & (place % 2 == 0 ? EVEN_UNITS : ODD_UNITS);
        }

        private boolean isAtHead() {
            return route == chainOf(position);
        }

        private int replayRoute() {
            return position == upto ? NO_UNITS : highestOf(chainOf(position));
        }

        // Two reforms may seal for the same new epoch: the store decides between them, not the units.
        private int newestEpochItBears() {
            return kind == REFORM ? epoch + 1 : epoch;
        }

        private int goAlongChain(int numberBehindTail) {
            route = withoutLowest(route);
            return route == NO_UNITS ? end(DONE, numberBehindTail) : GOES_ON;
        }
    }
}
