/** Each sentence of the promises 1 to 18 that names an edge has a test of its own here, headed by its words. */
public final class SharedLogEdgesTest {
    private static final int GREATEST = 1073741823;
    private static final int LEAST_INT = Integer.MIN_VALUE;
    private static final int GREATEST_INT = Integer.MAX_VALUE;
    private static final int[] NO_CLIENTS = {-1, 3, LEAST_INT, GREATEST_INT};
    private static final int[] NO_UNITS = {-1, 6, LEAST_INT, GREATEST_INT};
    private static final int[] NO_POSITIONS = {-1, 32, LEAST_INT, GREATEST_INT};

    private static final Checks checks = new Checks();

    /** One of the five calls that begin an operation. */
    private interface Begin {
        int on(SharedLog log, int client, int argument);
    }

    /** A call of one client: step, refresh or a question. */
    private interface OfClient {
        int on(SharedLog log, int client);
    }

    public static void main(String[] args) {
        newObject();
        append();
        fill();
        read();
        replay();
        reform();
        step();
        refresh();
        setUp();
        loseSequencer();
        busy();
        outcome();
        number();
        epochOf();
        membersOf();
        tail();
        unitEpoch();
        cell();
        checks.exitWithResult();
    }

    private static void newObject() {
        checks.part("1 as said at first");
        StringBuilder want = new StringBuilder("tail 0");
        for (int c = 0; c <= 2; c++) {
            want.append("; client ").append(c).append(" 0 0 0 0 63");
        }
        for (int u = 0; u <= 5; u++) {
            want.append("; unit ").append(u).append(" 0:").append(" -2".repeat(32));
        }
        checks.due("all questions", Checks.stateOf(new SharedLog()), want.toString());

        checks.part("1 as said at first, while another object is in use");
        SharedLog other = new SharedLog();
        Checks.appendWhole(other, 0, 7);
        Checks.reformWhole(other, 0, 1);
        other.setUp(2, false);
        other.append(0, 8);
        SharedLog log = new SharedLog();
        checks.due("all questions", Checks.stateOf(log), want.toString());
        log.reform(0, 0);
        checks.ends(log, 0, 7, 1, 1);
    }

    private static void append() {
        Begin append = SharedLog::append;
        int[] allowed = {0, 1, GREATEST - 1, GREATEST};
        int[] wrong = {-1, -2, GREATEST + 1, LEAST_INT, GREATEST_INT};
        beginning("2 append", append, 1, allowed, wrong);

        checks.part("2 append begins: nothing is asked yet");
        SharedLog log = new SharedLog();
        log.append(0, 7);
        checks.due("next", log.tail(), 0);

        for (int value : allowed) {
            checks.part("2 append of the value " + value);
            log = new SharedLog();
            log.append(2, value);
            checks.ends(log, 2, 4, 1, 0);
            for (int u = 0; u <= 4; u += 2) {
                checks.due("cell of unit " + u, log.cell(u, 0), value);
            }
        }
    }

    private static void fill() {
        beginning("3 fill", SharedLog::fill, 2, new int[] {0, 1, 30, 31}, NO_POSITIONS);
        int[] edges = {0, 31};
        for (int p : edges) {
            checks.part("3 fill of the position " + p);
            SharedLog log = new SharedLog();
            log.fill(0, p);
            checks.ends(log, 0, 3, 1, -1);
            checks.due("head", log.cell(p % 2, p), -1);
            checks.due("tail", log.cell(4 + p % 2, p), -1);
            checks.due("next", log.tail(), 0);
        }
    }

    private static void read() {
        beginning("4 read", SharedLog::read, 3, new int[] {0, 1, 30, 31}, NO_POSITIONS);
        int[] edges = {0, 31};
        for (int p : edges) {
            checks.part("4 read of the position " + p);
            SharedLog log = new SharedLog();
            log.read(1, p);
            checks.ends(log, 1, 1, 3, -2);
            Checks.fillWhole(log, 0, p);
            log.read(1, p);
            checks.ends(log, 1, 1, 1, -1);
            log.read(1, 31 - p);
            checks.ends(log, 1, 1, 3, -2);
        }
    }

    private static void replay() {
        int[] wrong = {-1, 33, LEAST_INT, GREATEST_INT};
        beginning("5 replay", SharedLog::replay, 4, new int[] {0, 1, 31, 32}, wrong);

        checks.part("5 replay of the positions below upto");
        SharedLog log = new SharedLog();
        Checks.reformWhole(log, 0, 63 - 1 - 2);
        for (int p = 0; p <= 31; p++) {
            Checks.fillWhole(log, 0, p);
        }
        log.replay(0, 0);
        checks.ends(log, 0, 1, 1, 0);
        log.replay(0, 31);
        checks.ends(log, 0, 32, 1, 0);
        log.replay(0, 32);
        checks.ends(log, 0, 33, 1, 0);
    }

    private static void reform() {
        int[] wrong = {-1, 64, LEAST_INT, GREATEST_INT, 64 + 63, -64};
        beginning("6 reform", SharedLog::reform, 5, new int[] {0, 1, 32, 63 - 1 - 2, 63 - 16 - 32}, wrong);
        noSurvivor();

        checks.part("6 reform: -3 comes before -4");
        SharedLog log = new SharedLog();
        checks.due("all bits", log.reform(0, -1), -3);
        checks.due("all units and one more", log.reform(0, 127), -3);
        checks.due("all even units and one more", log.reform(0, 64 + 21), -3);

        checks.part("6 reform: -2 comes before -4, -1 before both");
        log.append(0, 7);
        checks.due("busy", log.reform(0, 63), -2);
        checks.due("no such client", log.reform(3, 63), -1);
    }

    private static void noSurvivor() {
        checks.part("6 reform: -4 a stripe has no survivor");
        for (int mask = 0; mask <= 63; mask++) {
            SharedLog log = new SharedLog();
            boolean refused = (mask & 21) == 21 || (mask & 42) == 42;
            checks.due("mask " + mask, log.reform(1, mask), refused ? -4 : 0);
            checks.due("busy after mask " + mask, log.busy(1), refused ? 0 : 5);
        }

        checks.part("6 reform: -4 looks at the client's own members");
        SharedLog log = new SharedLog();
        Checks.reformWhole(log, 0, 1 + 4);
        checks.due("last even unit", log.reform(0, 16), -4);
        checks.due("all even units", log.reform(0, 21), -4);
        checks.due("all even and one odd unit", log.reform(0, 21 + 2), -4);
        checks.due("an older client still has three", log.reform(1, 16), 0);
        log.refresh(2);
        checks.due("one that is as new has one", log.reform(2, 16), -4);
        checks.due("two odd units may go", log.reform(2, 2 + 8), 0);
    }

    private static void beginning(String name, Begin begin, int kind, int[] allowed, int[] wrong) {
        begunWith(name, begin, kind, allowed);
        noSuchClientBegins(name, begin, allowed[0], wrong);
        busyClientBegins(name, begin, kind, allowed[0], wrong);
        wrongArgument(name, begin, wrong);
        beginningMakesOutcomeAndNumberZero(name, begin, kind, allowed[0]);
    }

    private static void begunWith(String name, Begin begin, int kind, int[] allowed) {
        checks.part(name + ": 0 it is begun");
        for (int argument : allowed) {
            for (int c = 0; c <= 2; c++) {
                SharedLog log = new SharedLog();
                checks.due("client " + c + " argument " + argument, begin.on(log, c, argument), 0);
                checks.due("kind", log.busy(c), kind);
                for (int other = 0; other <= 2; other++) {
                    checks.due("client " + other, log.busy(other), other == c ? kind : 0);
                }
            }
        }
    }

    private static void noSuchClientBegins(String name, Begin begin, int good, int[] wrong) {
        checks.part(name + ": -1 no such client, before all others");
        for (int c : NO_CLIENTS) {
            SharedLog log = new SharedLog();
            checks.due("client " + c, begin.on(log, c, good), -1);
            for (int argument : wrong) {
                checks.due("client " + c + " argument " + argument, begin.on(log, c, argument), -1);
            }
        }
    }

    private static void busyClientBegins(String name, Begin begin, int kind, int good, int[] wrong) {
        for (int at = 1; at <= 5; at++) {
            checks.part(name + ": -2 it is busy, before -3, at kind " + at);
            SharedLog log = new SharedLog();
            beginKind(log, 1, at);
            checks.due("good argument", begin.on(log, 1, good), -2);
            for (int argument : wrong) {
                checks.due("argument " + argument, begin.on(log, 1, argument), -2);
            }
            checks.due("kind stays", log.busy(1), at);
            checks.due("another client is not busy", begin.on(log, 0, good), 0);
            checks.due("its kind", log.busy(0), kind);
        }
    }

    private static void wrongArgument(String name, Begin begin, int[] wrong) {
        checks.part(name + ": -3 the argument is out of its bounds");
        for (int argument : wrong) {
            SharedLog log = new SharedLog();
            for (int c = 0; c <= 2; c++) {
                checks.due("client " + c + " argument " + argument, begin.on(log, c, argument), -3);
                checks.due("still idle", log.busy(c), 0);
                checks.due("step", log.step(c), -2);
            }
        }
    }

    private static void beginningMakesOutcomeAndNumberZero(String name, Begin begin, int kind, int good) {
        checks.part(name + ": outcome and number become 0");
        SharedLog log = new SharedLog();
        log.read(0, 0);
        checks.ends(log, 0, 1, 3, -2);
        log.read(1, 0);
        checks.ends(log, 1, 1, 3, -2);
        checks.due("begun", begin.on(log, 0, good), 0);
        checks.due("kind", log.busy(0), kind);
        checks.due("outcome", log.outcome(0), 0);
        checks.due("number", log.number(0), 0);
        checks.due("another's outcome", log.outcome(1), 3);
        checks.due("another's number", log.number(1), -2);
    }

    private static void beginKind(SharedLog log, int client, int kind) {
        int answer = kind == 1 ? log.append(client, 7)
            : kind == 2 ? log.fill(client, 5)
            : kind == 3 ? log.read(client, 5)
            : kind == 4 ? log.replay(client, 5)
            : log.reform(client, 1);
        checks.due("kind " + kind + " begins", answer, 0);
    }

    private static void step() {
        checks.part("7 step: 0 it goes on; 1 it ended");
        int[] steps = {4, 3, 1, 1, 6};
        for (int kind = 1; kind <= 5; kind++) {
            SharedLog log = new SharedLog();
            beginKind(log, 0, kind);
            for (int i = 1; i < steps[kind - 1]; i++) {
                checks.due("kind " + kind + " step " + i, log.step(0), 0);
                checks.due("still busy", log.busy(0), kind);
            }
            checks.due("kind " + kind + " last step", log.step(0), 1);
            checks.due("idle", log.busy(0), 0);
        }

        noSuchClient("7 step: -1 no such client", SharedLog::step, -1);

        checks.part("7 step: -2 it is idle");
        SharedLog log = new SharedLog();
        for (int c = 0; c <= 2; c++) {
            checks.due("never busy " + c, log.step(c), -2);
        }
        Checks.fillWhole(log, 1, 0);
        checks.due("done", log.step(1), -2);
        checks.due("outcome stays", log.outcome(1), 1);
        checks.due("number stays", log.number(1), -1);

        checks.part("7 step: -2 comes before -3");
        for (int u = 0; u <= 5; u++) {
            log.setUp(u, false);
        }
        checks.due("idle while all units are down", log.step(1), -2);

        checks.part("7 step: -3 the unit it asks is down (nothing changes)");
        log.fill(0, 2);
        for (int i = 0; i < 5; i++) {
            checks.due("try " + i, log.step(0), -3);
        }
        log.setUp(0, true);
        checks.due("up", log.step(0), 0);
        checks.due("the next one is down", log.step(0), -3);
        log.setUp(2, true);
        log.setUp(4, true);
        checks.ends(log, 0, 2, 1, -1);
    }

    private static void noSuchClient(String name, OfClient call, int want) {
        checks.part(name);
        SharedLog log = new SharedLog();
        for (int c : NO_CLIENTS) {
            checks.due("client " + c + " of a new object", call.on(log, c), want);
        }
        for (int c = 0; c <= 2; c++) {
            log.append(c, 7);
        }
        for (int c : NO_CLIENTS) {
            checks.due("client " + c + " while all are busy", call.on(log, c), want);
        }
    }

    private static void refresh() {
        checks.part("8 refresh: an idle client takes the store's projection: its epoch");
        SharedLog log = new SharedLog();
        checks.due("nothing newer", log.refresh(1), 0);
        Checks.reformWhole(log, 0, 1);
        Checks.reformWhole(log, 0, 2);
        checks.due("two newer", log.refresh(1), 2);
        checks.due("epoch", log.epochOf(1), 2);
        checks.due("members", log.membersOf(1), 60);
        checks.due("again", log.refresh(1), 2);
        checks.due("others keep theirs", log.epochOf(2), 0);
        checks.due("others keep theirs", log.membersOf(2), 63);

        noSuchClient("8 refresh: -1 no such client", SharedLog::refresh, -1);

        for (int kind = 1; kind <= 5; kind++) {
            checks.part("8 refresh: -2 it is busy, at kind " + kind);
            log = new SharedLog();
            beginKind(log, 1, kind);
            Checks.reformWhole(log, 0, 4);
            checks.due("refresh", log.refresh(1), -2);
            checks.due("epoch stays", log.epochOf(1), 0);
            checks.due("members stay", log.membersOf(1), 63);
        }

        checks.part("8 refresh: outcome and number stay");
        log = new SharedLog();
        log.read(1, 0);
        checks.ends(log, 1, 1, 3, -2);
        Checks.reformWhole(log, 0, 4);
        checks.due("refresh", log.refresh(1), 1);
        checks.due("outcome", log.outcome(1), 3);
        checks.due("number", log.number(1), -2);
        checks.due("idle", log.busy(1), 0);
    }

    private static void setUp() {
        checks.part("9 setUp: false if there is no such unit");
        SharedLog log = new SharedLog();
        for (int u : NO_UNITS) {
            checks.due("down " + u, log.setUp(u, false), false);
            checks.due("up " + u, log.setUp(u, true), false);
        }

        checks.part("9 setUp puts a unit up or down");
        for (int unit = 0; unit <= 5; unit++) {
            log = new SharedLog();
            checks.due("up already " + unit, log.setUp(unit, true), true);
            checks.due("down " + unit, log.setUp(unit, false), true);
            checks.due("down already " + unit, log.setUp(unit, false), true);
            log.reform(0, 0);
            for (int u = 0; u < unit; u++) {
                checks.due("unit " + u, log.step(0), 0);
            }
            checks.due("unit " + unit + " is down", log.step(0), -3);
            checks.due("up " + unit, log.setUp(unit, true), true);
            checks.ends(log, 0, 7 - unit, 1, 1);
        }
    }

    private static void loseSequencer() {
        checks.part("10 loseSequencer: next becomes 0, from 0, 1 and 32");
        SharedLog log = new SharedLog();
        log.loseSequencer();
        checks.due("from 0", log.tail(), 0);
        Checks.appendWhole(log, 0, 7);
        log.loseSequencer();
        checks.due("from 1", log.tail(), 0);
        Checks.fillWhole(log, 0, 31);
        Checks.reformWhole(log, 0, 0);
        checks.due("full", log.tail(), 32);
        log.loseSequencer();
        checks.due("from 32", log.tail(), 0);

        checks.part("10 loseSequencer: the sequencer's epoch stays");
        log.append(1, 8);
        checks.ends(log, 1, 1, 2, 0);
        log.append(0, 8);
        checks.ends(log, 0, 6, 1, 1);

        checks.part("10 loseSequencer: a position that was handed out stays");
        log = new SharedLog();
        Checks.fillWhole(log, 1, 0);
        log.append(0, 8);
        Checks.steps(log, 0, 3);
        log.loseSequencer();
        checks.ends(log, 0, 3, 1, 1);
        checks.due("next", log.tail(), 0);
    }

    private static void busy() {
        noSuchClient("11 busy: -9 no such client", SharedLog::busy, -9);
        checks.part("11 busy: the kind of the client's operation, 0 if it is idle");
        for (int c = 0; c <= 2; c++) {
            for (int kind = 1; kind <= 5; kind++) {
                SharedLog log = new SharedLog();
                checks.due("never busy", log.busy(c), 0);
                beginKind(log, c, kind);
                checks.due("client " + c, log.busy(c), kind);
                Checks.finish(log, c);
                checks.due("done", log.busy(c), 0);
            }
        }
    }

    private static void outcome() {
        noSuchClient("12 outcome: -9 no such client", SharedLog::outcome, -9);
        checks.part("12 outcome: of the client's latest operation, 0 while it is busy");
        SharedLog log = new SharedLog();
        log.read(2, 31);
        checks.due("busy", log.outcome(2), 0);
        log.step(2);
        checks.due("unwritten", log.outcome(2), 3);
        log.append(2, 7);
        for (int i = 0; i < 4; i++) {
            checks.due("busy", log.outcome(2), 0);
            log.step(2);
        }
        checks.due("the latest", log.outcome(2), 1);
        checks.due("others", log.outcome(0) + log.outcome(1), 0);
        log.append(2, -1);
        log.step(2);
        checks.due("a refused call leaves it", log.outcome(2), 1);
    }

    private static void number() {
        noSuchClient("13 number: -9 no such client", SharedLog::number, -9);
        checks.part("13 number: of the client's latest operation, 0 while it is busy");
        SharedLog log = new SharedLog();
        log.read(2, 31);
        checks.due("busy", log.number(2), 0);
        log.step(2);
        checks.due("unwritten", log.number(2), -2);
        log.fill(2, 31);
        for (int i = 0; i < 3; i++) {
            checks.due("busy", log.number(2), 0);
            log.step(2);
        }
        checks.due("the latest", log.number(2), -1);
        checks.due("others", log.number(0) + log.number(1), 0);
        log.fill(2, 32);
        log.step(2);
        checks.due("a refused call leaves it", log.number(2), -1);
    }

    private static void epochOf() {
        noSuchClient("14 epochOf: -9 no such client", SharedLog::epochOf, -9);
        checks.part("14 epochOf: the epoch of the client's projection");
        for (int c = 0; c <= 2; c++) {
            SharedLog log = new SharedLog();
            Checks.reformWhole(log, c, 0);
            Checks.reformWhole(log, c, 0);
            for (int other = 0; other <= 2; other++) {
                checks.due("client " + other, log.epochOf(other), other == c ? 2 : 0);
            }
        }
    }

    private static void membersOf() {
        noSuchClient("15 membersOf: -9 no such client", SharedLog::membersOf, -9);
        checks.part("15 membersOf: the members of the client's projection");
        for (int c = 0; c <= 2; c++) {
            for (int u = 0; u <= 5; u++) {
                SharedLog log = new SharedLog();
                Checks.reformWhole(log, c, 1 << u);
                for (int other = 0; other <= 2; other++) {
                    checks.due("client " + other, log.membersOf(other), other == c ? 63 - (1 << u) : 63);
                }
            }
        }
    }

    private static void tail() {
        checks.part("16 tail: the sequencer's next, from 0 to 32");
        SharedLog log = new SharedLog();
        Checks.reformWhole(log, 0, 63 - 1 - 2);
        for (int next = 0; next <= 31; next++) {
            checks.due("tail", log.tail(), next);
            Checks.appendWhole(log, 0, 7);
        }
        checks.due("full", log.tail(), 32);
        Checks.appendWhole(log, 0, 7);
        checks.due("stays", log.tail(), 32);
    }

    private static void unitEpoch() {
        checks.part("17 unitEpoch: -9 no such unit");
        SharedLog log = new SharedLog();
        for (int u : NO_UNITS) {
            checks.due("unit " + u, log.unitEpoch(u), -9);
        }
        checks.part("17 unitEpoch: the unit's epoch");
        for (int left = 0; left <= 5; left++) {
            log = new SharedLog();
            Checks.reformWhole(log, 0, 0);
            Checks.reformWhole(log, 0, 1 << left);
            log.setUp(5, false);
            for (int u = 0; u <= 5; u++) {
                checks.due("unit " + u, log.unitEpoch(u), u == left ? 1 : 2);
            }
        }
    }

    private static void cell() {
        checks.part("18 cell: -9 no such unit");
        SharedLog log = new SharedLog();
        for (int u : NO_UNITS) {
            checks.due("unit " + u + " position 0", log.cell(u, 0), -9);
            checks.due("unit " + u + " position 31", log.cell(u, 31), -9);
        }
        checks.part("18 cell: -9 no such position");
        for (int p : NO_POSITIONS) {
            for (int u = 0; u <= 5; u++) {
                checks.due("unit " + u + " position " + p, log.cell(u, p), -9);
            }
        }
        checks.part("18 cell: -9 neither unit nor position");
        for (int u : NO_UNITS) {
            for (int p : NO_POSITIONS) {
                checks.due("unit " + u + " position " + p, log.cell(u, p), -9);
            }
        }
        checks.part("18 cell: the first and the last one");
        Checks.fillWhole(log, 0, 0);
        Checks.fillWhole(log, 0, 31);
        checks.due("first unit, first position", log.cell(0, 0), -1);
        checks.due("first unit, last position", log.cell(0, 31), -2);
        checks.due("last unit, first position", log.cell(5, 0), -2);
        checks.due("last unit, last position", log.cell(5, 31), -1);
    }
}
