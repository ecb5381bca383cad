/** Each sentence of the document's "Terms" that names an edge has a test of its own here, headed by its words. */
public final class SharedLogTermsTest {
    private static final int GREATEST = 1073741823;

    private static final Checks checks = new Checks();

    public static void main(String[] args) {
        clientsUnitsPositions();
        stripes();
        contentsOfACell();
        whatIsWrittenNeverChanges();
        headAndTailMayBeTheSame();
        cellsAreKeptWhileDown();
        atFirst();
        projectionStaysWhileBusy();
        toEndMakesIdle();
        downUnits();
        appendAtTheSequencer();
        appendAtUnits();
        fills();
        reads();
        replays();
        reformSeals();
        reformEnds();
        reformAtTheStore();
        questionsChangeNothing();
        checks.exitWithResult();
    }

    private static void clientsUnitsPositions() {
        threeClients();
        sixUnits();
        thirtyTwoPositions();
    }

    private static void threeClients() {
        checks.part("CLIENTS are 0 .. 2");
        SharedLog log = new SharedLog();
        for (int c = 0; c <= 2; c++) {
            checks.due("append of client " + c, log.append(c, 10 + c), 0);
        }
        for (int c = 0; c <= 2; c++) {
            checks.ends(log, c, 4, 1, c);
            checks.due("value of client " + c, log.cell(c % 2, c), 10 + c);
        }
        checks.due("client -1", log.busy(-1), -9);
        checks.due("client 3", log.busy(3), -9);
    }

    private static void sixUnits() {
        checks.part("UNITS 0 .. 5");
        SharedLog log = new SharedLog();
        Checks.reformWhole(log, 0, 0);
        for (int u = 0; u <= 5; u++) {
            checks.due("epoch of unit " + u, log.unitEpoch(u), 1);
        }
        checks.due("unit -1", log.unitEpoch(-1), -9);
        checks.due("unit 6", log.unitEpoch(6), -9);
    }

    private static void thirtyTwoPositions() {
        checks.part("POSITIONS 0 .. 31");
        SharedLog log = new SharedLog();
        Checks.reformWhole(log, 0, 63 - 1 - 2);
        for (int p = 0; p <= 31; p++) {
            log.append(0, 100 + p);
            checks.ends(log, 0, 2, 1, p);
            checks.due("cell", log.cell(p % 2, p), 100 + p);
        }
        checks.due("position -1", log.cell(0, -1), -9);
        checks.due("position 32", log.cell(0, 32), -9);
    }

    private static void stripes() {
        checks.part("Position p and unit u belong to STRIPE p % 2 and u % 2");
        SharedLog log = new SharedLog();
        for (int p = 0; p <= 31; p++) {
            Checks.fillWhole(log, p % 3, p);
        }
        for (int u = 0; u <= 5; u++) {
            for (int p = 0; p <= 31; p++) {
                checks.due("cell " + u + " " + p, log.cell(u, p), u % 2 == p % 2 ? -1 : -2);
            }
        }
    }

    private static void contentsOfACell() {
        checks.part("A CELL is UNWRITTEN (-2), or holds JUNK (-1) or a VALUE 0 .. 1073741823");
        SharedLog log = new SharedLog();
        Checks.appendWhole(log, 0, 0);
        Checks.appendWhole(log, 0, GREATEST);
        Checks.fillWhole(log, 0, 2);
        checks.due("least value", log.cell(4, 0), 0);
        checks.due("greatest value", log.cell(5, 1), GREATEST);
        checks.due("junk", log.cell(4, 2), -1);
        checks.due("unwritten", log.cell(5, 3), -2);
    }

    private static void whatIsWrittenNeverChanges() {
        checks.part("What is written never changes");
        SharedLog log = new SharedLog();
        Checks.appendWhole(log, 0, 0);
        Checks.fillWhole(log, 1, 0);
        checks.due("a value is not filled, on the head", log.cell(0, 0), 0);
        checks.due("a value is not filled, in the middle", log.cell(2, 0), 0);
        checks.due("a value is not filled, on the tail", log.cell(4, 0), 0);
        Checks.fillWhole(log, 1, 1);
        Checks.appendWhole(log, 0, 5);
        checks.due("the append went elsewhere", log.number(0), 2);
        checks.due("junk is not appended to, on the head", log.cell(1, 1), -1);
        checks.due("junk is not appended to, on the tail", log.cell(5, 1), -1);
        log.loseSequencer();
        Checks.appendWhole(log, 0, 6);
        checks.due("a value is not appended to", log.cell(0, 0), 0);
        Checks.reformWhole(log, 0, 0);
        log.loseSequencer();
        Checks.appendWhole(log, 0, 7);
        checks.due("a value outlives a reform", log.cell(4, 0), 0);
        checks.due("junk outlives a reform", log.cell(5, 1), -1);
    }

    private static void headAndTailMayBeTheSame() {
        checks.part("HEAD the first, TAIL the last one (they may be the same)");
        for (int even = 0; even <= 4; even += 2) {
            for (int odd = 1; odd <= 5; odd += 2) {
                SharedLog log = new SharedLog();
                Checks.reformWhole(log, 0, 63 - (1 << even) - (1 << odd));
                log.append(0, 8);
                checks.ends(log, 0, 2, 1, 0);
                checks.due("sole even unit", log.cell(even, 0), 8);
                log.fill(0, 0);
                checks.ends(log, 0, 1, 1, 8);
                log.fill(0, 1);
                checks.ends(log, 0, 1, 1, -1);
                checks.due("sole odd unit", log.cell(odd, 1), -1);
                log.append(0, 9);
                checks.ends(log, 0, 4, 1, 2);
                log.read(0, 2);
                checks.ends(log, 0, 1, 1, 9);
                log.read(0, 3);
                checks.ends(log, 0, 1, 3, -2);
                log.replay(0, 3);
                checks.ends(log, 0, 4, 1, 8 * 31 + 9);
                log.reform(0, 0);
                checks.ends(log, 0, 3, 1, 2);
                checks.due("end", log.tail(), 3);
            }
        }
    }

    private static void cellsAreKeptWhileDown() {
        checks.part("of each unit its cells (kept while it is down)");
        SharedLog log = new SharedLog();
        Checks.appendWhole(log, 0, 3);
        Checks.fillWhole(log, 0, 2);
        log.setUp(4, false);
        checks.due("value while down", log.cell(4, 0), 3);
        checks.due("junk while down", log.cell(4, 2), -1);
        checks.due("unwritten while down", log.cell(4, 4), -2);
        log.setUp(4, true);
        checks.due("value after it", log.cell(4, 0), 3);
        checks.due("junk after it", log.cell(4, 2), -1);
        log.replay(1, 1);
        checks.ends(log, 1, 2, 1, 3);
        log.fill(1, 0);
        checks.ends(log, 1, 3, 1, 3);
    }

    private static void atFirst() {
        checks.part("At first all epochs are 0: clients and units");
        SharedLog log = new SharedLog();
        for (int c = 0; c <= 2; c++) {
            checks.due("epochOf " + c, log.epochOf(c), 0);
        }
        for (int u = 0; u <= 5; u++) {
            checks.due("unitEpoch " + u, log.unitEpoch(u), 0);
        }

        checks.part("At first all epochs are 0: store and sequencer");
        checks.due("store", log.refresh(0), 0);
        log.append(0, 1);
        checks.due("sequencer", log.step(0), 0);

        checks.part("At first all members masks are 63");
        log = new SharedLog();
        for (int c = 0; c <= 2; c++) {
            checks.due("own", log.membersOf(c), 63);
            log.refresh(c);
            checks.due("the store's", log.membersOf(c), 63);
        }

        checks.part("At first all units are up");
        log = new SharedLog();
        log.reform(0, 0);
        checks.ends(log, 0, 7, 1, 1);

        checks.part("At first all cells are unwritten");
        log = new SharedLog();
        for (int u = 0; u <= 5; u++) {
            for (int p = 0; p <= 31; p++) {
                checks.due("cell " + u + " " + p, log.cell(u, p), -2);
            }
        }

        checks.part("At first next is 0");
        checks.due("tail", log.tail(), 0);

        checks.part("At first all clients are idle with outcome 0 and number 0");
        for (int c = 0; c <= 2; c++) {
            checks.due("busy " + c, log.busy(c), 0);
            checks.due("step " + c, log.step(c), -2);
            checks.due("outcome " + c, log.outcome(c), 0);
            checks.due("number " + c, log.number(c), 0);
        }
    }

    private static void projectionStaysWhileBusy() {
        checks.part("It uses the client's projection, which does not change while the client is busy");
        SharedLog log = new SharedLog();
        log.fill(0, 0);
        log.append(1, 4);
        log.step(1);
        Checks.reformWhole(log, 2, 1 + 4);
        checks.due("refresh of the busy one", log.refresh(0), -2);
        checks.due("its epoch", log.epochOf(0), 0);
        checks.due("its members", log.membersOf(0), 63);
        checks.due("it asks units that were left out", log.step(0), 0);
        checks.due("the old head", log.cell(0, 0), -1);
        checks.due("the old second", log.step(0), 0);
        checks.due("the old second", log.cell(2, 0), -1);
        checks.ends(log, 0, 1, 2, 0);
        checks.due("the old head of the append gives up", log.step(1), 0);
        checks.due("the append has still its old epoch", log.epochOf(1), 0);
        checks.ends(log, 1, 1, 2, 0);

        log = new SharedLog();
        log.reform(0, 2);
        log.step(0);
        checks.due("a reform under way keeps the old members", log.membersOf(0), 63);
        checks.due("and the old epoch", log.epochOf(0), 0);
        Checks.steps(log, 0, 4);
        checks.due("before its last step too", log.membersOf(0), 63);
        checks.ends(log, 0, 1, 1, 1);
        checks.due("its last step gives the new ones", log.membersOf(0), 61);
    }

    private static void toEndMakesIdle() {
        checks.part("To END it with an outcome and a number makes the client idle");
        SharedLog log = new SharedLog();
        log.fill(0, 31);
        checks.ends(log, 0, 3, 1, -1);
        log.read(0, 5);
        checks.ends(log, 0, 1, 3, -2);
        log.replay(0, 1);
        checks.ends(log, 0, 1, 3, 0);
        log.reform(0, 0);
        checks.ends(log, 0, 7, 1, 1);
        log.append(0, 1);
        checks.ends(log, 0, 1, 4, 0);
        log.append(1, 1);
        checks.ends(log, 1, 1, 2, 0);
        log.reform(1, 0);
        checks.ends(log, 1, 7, 5, 1);
        checks.due("an idle client begins again", log.append(1, 1), 0);
    }

    /** Begins the kind so that its next steps ask the units of one whole chain or its tail, or all units. */
    private static int[] beginAtUnits(SharedLog log, int kind) {
        switch (kind) {
            case 1:
                log.append(0, 4);
                log.step(0);
                return new int[] {1, 3, 5};
            case 2:
                log.fill(0, 1);
                return new int[] {1, 3, 5};
            case 3:
                log.read(0, 0);
                return new int[] {4};
            case 4:
                log.replay(0, 3);
                return new int[] {4, 5, 4};
            default:
                log.reform(0, 8);
                return new int[] {0, 1, 2, 4, 5};
        }
    }

    private static void downUnits() {
        for (int kind = 1; kind <= 5; kind++) {
            int places = beginAtUnits(new SharedLog(), kind).length;
            for (int place = 0; place < places; place++) {
                stepAtDownUnit(kind, place);
                stepAtTheOnlyUpUnit(kind, place);
                downComesBeforeStale(kind, place);
            }
        }
        whatAsksNoUnitNeverWaits();
    }

    /** Position 0 holds a value; position 1 holds junk for a replay alone, as the others shall write there. */
    private static SharedLog logAtPlace(int kind, int place) {
        SharedLog log = new SharedLog();
        Checks.appendWhole(log, 1, 8);
        if (kind == 4) {
            Checks.fillWhole(log, 1, 1);
        }
        beginAtUnits(log, kind);
        Checks.steps(log, 0, place);
        return log;
    }

    private static int unitAtPlace(int kind, int place) {
        return beginAtUnits(new SharedLog(), kind)[place];
    }

    private static void stepAtDownUnit(int kind, int place) {
        checks.part("An operation that asks a unit that is down does nothing: kind " + kind + " place " + place);
        SharedLog log = logAtPlace(kind, place);
        log.setUp(unitAtPlace(kind, place), false);
        String before = Checks.stateOf(log);
        checks.due("down", log.step(0), -3);
        checks.due("down again", log.step(0), -3);
        checks.due("all questions", Checks.stateOf(log), before);
        log.setUp(unitAtPlace(kind, place), true);
        SharedLog neverDown = logAtPlace(kind, place);
        for (int i = 0; i < 8; i++) {
            checks.due("step " + i + " once it is up", log.step(0), neverDown.step(0));
        }
        checks.due("outcome", log.outcome(0), neverDown.outcome(0));
        checks.due("number", log.number(0), neverDown.number(0));
        checks.due("tail", log.tail(), neverDown.tail());
    }

    private static void stepAtTheOnlyUpUnit(int kind, int place) {
        checks.part("Only the unit that is asked has to be up: kind " + kind + " place " + place);
        SharedLog log = logAtPlace(kind, place);
        for (int u = 0; u <= 5; u++) {
            log.setUp(u, u == unitAtPlace(kind, place));
        }
        SharedLog allUp = logAtPlace(kind, place);
        checks.due("step", log.step(0), allUp.step(0));
        checks.due("outcome", log.outcome(0), allUp.outcome(0));
        checks.due("number", log.number(0), allUp.number(0));
    }

    private static void downComesBeforeStale(int kind, int place) {
        checks.part("A unit that is down is not asked for its epoch: kind " + kind + " place " + place);
        SharedLog log = logAtPlace(kind, place);
        Checks.reformWhole(log, 1, 0);
        Checks.reformWhole(log, 1, 0);
        int unit = unitAtPlace(kind, place);
        log.setUp(unit, false);
        checks.due("down", log.step(0), -3);
        checks.due("still busy", log.busy(0), kind);
        checks.due("no outcome", log.outcome(0), 0);
        log.setUp(unit, true);
        checks.ends(log, 0, 1, 2, 0);
        checks.due("epoch of the unit", log.unitEpoch(unit), 2);
    }

    private static void whatAsksNoUnitNeverWaits() {
        checks.part("The sequencer, the store and a replay's end ask no unit");
        SharedLog log = new SharedLog();
        log.reform(2, 0);
        Checks.steps(log, 2, 6);
        for (int u = 0; u <= 5; u++) {
            log.setUp(u, false);
        }
        log.append(0, 1);
        checks.due("the sequencer", log.step(0), 0);
        checks.due("it handed a position out", log.tail(), 1);
        checks.due("the head", log.step(0), -3);
        log.replay(1, 0);
        checks.ends(log, 1, 1, 1, 0);
        checks.ends(log, 2, 1, 1, 1);
        checks.due("next", log.tail(), 0);
        log.append(1, 1);
        checks.ends(log, 1, 1, 2, 0);
    }

    /** A new log with this next and epoch 1 for client 0 alone; the position below next holds junk. */
    private static SharedLog logWithNext(int next) {
        SharedLog log = new SharedLog();
        if (next > 0) {
            Checks.fillWhole(log, 0, next - 1);
        }
        Checks.reformWhole(log, 0, 0);
        checks.due("next of the prepared log", log.tail(), next);
        return log;
    }

    private static void appendAtTheSequencer() {
        checks.part("APPEND: is the client's epoch not the sequencer's: stale");
        SharedLog log = logWithNext(3);
        log.append(1, 5);
        checks.ends(log, 1, 1, 2, 0);
        checks.due("nothing handed out", log.tail(), 3);
        log.refresh(1);
        log.append(1, 5);
        checks.ends(log, 1, 4, 1, 3);

        checks.part("APPEND: stale is asked before full");
        log = logWithNext(32);
        log.append(1, 5);
        checks.ends(log, 1, 1, 2, 0);

        checks.part("APPEND: is next 32: it ends with outcome 4, number 0");
        log = logWithNext(32);
        log.append(0, 5);
        checks.ends(log, 0, 1, 4, 0);
        checks.due("next stays", log.tail(), 32);
        log.append(0, 5);
        checks.ends(log, 0, 1, 4, 0);
        checks.due("next still stays", log.tail(), 32);

        checks.part("APPEND: next 31 is still handed out");
        log = logWithNext(31);
        log.append(0, 5);
        checks.ends(log, 0, 4, 1, 31);
        checks.due("next", log.tail(), 32);
        checks.due("last cell", log.cell(5, 31), 5);
        log.append(0, 5);
        checks.ends(log, 0, 1, 4, 0);

        checks.part("APPEND: else its position is next, next grows by 1, and it stands before the head");
        log = new SharedLog();
        log.append(0, 5);
        checks.due("begun", log.tail(), 0);
        checks.due("step", log.step(0), 0);
        checks.due("grown by 1", log.tail(), 1);
        checks.due("nothing written", log.cell(0, 0), -2);
        checks.due("step", log.step(0), 0);
        checks.due("no more grown", log.tail(), 1);
        checks.due("the head is written", log.cell(0, 0), 5);

        checks.part("APPEND: two clients get two positions");
        log = new SharedLog();
        log.append(0, 5);
        log.append(1, 6);
        log.step(1);
        log.step(0);
        checks.ends(log, 0, 3, 1, 1);
        checks.ends(log, 1, 3, 1, 0);
    }

    private static void appendAtUnits() {
        appendIsStaleAtEachPlace();
        appendAtEpochOfItsOwn();
        appendGivesUp();
        appendGoesOnOverWrittenCells();
        appendGoesThroughAFullLog();
    }

    private static void appendIsStaleAtEachPlace() {
        checks.part("APPEND: is that unit's epoch above the client's: stale");
        for (int place = 0; place < 3; place++) {
            SharedLog log = new SharedLog();
            log.append(0, 5);
            Checks.steps(log, 0, 1 + place);
            Checks.reformWhole(log, 1, 0);
            checks.ends(log, 0, 1, 2, 0);
            checks.due("not written at place " + place, log.cell(2 * place, 0), -2);
        }

        checks.part("APPEND: a unit that is sealed by a reform under way is above it too");
        SharedLog log = new SharedLog();
        log.append(0, 5);
        log.step(0);
        log.reform(1, 0);
        log.step(1);
        checks.ends(log, 0, 1, 2, 0);
        log.append(0, 5);
        checks.due("the sequencer is not yet", log.step(0), 0);
        checks.due("unit 1 is not yet", log.step(0), 0);
        checks.due("written there", log.cell(1, 1), 5);
    }

    private static void appendAtEpochOfItsOwn() {
        checks.part("APPEND: a unit's epoch that is the client's is not above it");
        SharedLog log = new SharedLog();
        Checks.reformWhole(log, 0, 0);
        Checks.reformWhole(log, 0, 0);
        log.append(0, 5);
        checks.ends(log, 0, 4, 1, 0);
        checks.due("units have the client's epoch", log.unitEpoch(0), log.epochOf(0));
    }

    private static void appendGivesUp() {
        int[] contents = {-1, 0, GREATEST};
        for (int content : contents) {
            checks.part("APPEND: is it written and the unit the head: the position is given up, content " + content);
            SharedLog log = new SharedLog();
            if (content == -1) {
                Checks.fillWhole(log, 1, 0);
            } else {
                Checks.appendWhole(log, 1, content);
                log.loseSequencer();
            }
            log.append(0, 5);
            log.step(0);
            checks.due("gives up", log.step(0), 0);
            checks.due("goes on", log.busy(0), 1);
            checks.due("takes none in that step", log.tail(), 1);
            checks.due("head", log.cell(0, 0), content);
            checks.due("asks the sequencer again", log.step(0), 0);
            checks.due("next", log.tail(), 2);
            checks.ends(log, 0, 3, 1, 1);
        }

        checks.part("APPEND: one that gave up its position may find the log full");
        SharedLog log = logWithNext(31);
        Checks.fillWhole(log, 0, 31);
        log.append(0, 5);
        checks.ends(log, 0, 3, 4, 0);
        checks.due("next", log.tail(), 32);

        checks.part("APPEND: one that gave up its position may be stale at the sequencer");
        log = new SharedLog();
        Checks.fillWhole(log, 1, 0);
        log.append(0, 5);
        Checks.steps(log, 0, 2);
        Checks.reformWhole(log, 1, 0);
        checks.ends(log, 0, 1, 2, 0);
    }

    private static void appendGoesOnOverWrittenCells() {
        checks.part("APPEND: is it written and the unit not the head: it goes on to the next unit");
        SharedLog log = new SharedLog();
        log.append(0, 5);
        Checks.steps(log, 0, 2);
        log.fill(1, 0);
        Checks.steps(log, 1, 2);
        checks.due("the middle is written by the fill", log.cell(2, 0), 5);
        checks.due("over the middle", log.step(0), 0);
        checks.due("the tail is not touched in that step", log.cell(4, 0), -2);
        checks.ends(log, 0, 1, 1, 0);

        checks.part("APPEND: behind a tail that was written it ends in the same step");
        log = new SharedLog();
        log.append(0, 5);
        Checks.steps(log, 0, 2);
        Checks.fillWhole(log, 1, 0);
        checks.ends(log, 0, 2, 1, 0);
        checks.due("next", log.tail(), 1);
    }

    private static void appendGoesThroughAFullLog() {
        checks.part("APPEND: a log that is full is full for a sequencer that forgot, too");
        SharedLog log = new SharedLog();
        Checks.reformWhole(log, 0, 63 - 1 - 2);
        for (int p = 0; p <= 31; p++) {
            Checks.appendWhole(log, 0, p);
        }
        checks.due("full", log.tail(), 32);
        log.loseSequencer();
        log.append(0, 5);
        checks.ends(log, 0, 65, 4, 0);
        checks.due("first", log.cell(0, 0), 0);
        checks.due("last", log.cell(1, 31), 31);
    }

    private static void fills() {
        checks.part("FILL goes along the chain of its position, one unit a step, from the head");
        SharedLog log = new SharedLog();
        log.fill(0, 31);
        for (int u = 1; u <= 5; u += 2) {
            checks.due("before unit " + u, log.cell(u, 31), -2);
            checks.due("step at unit " + u, log.step(0), u == 5 ? 1 : 0);
            checks.due("after unit " + u, log.cell(u, 31), -1);
        }

        for (int place = 0; place < 3; place++) {
            checks.part("FILL: stale as above, at place " + place);
            log = new SharedLog();
            log.fill(0, 0);
            Checks.steps(log, 0, place);
            Checks.reformWhole(log, 1, 0);
            checks.ends(log, 0, 1, 2, 0);
            checks.due("not written", log.cell(2 * place, 0), -2);
        }

        checks.part("FILL: at the head an unwritten cell gets junk");
        log = new SharedLog();
        log.fill(0, 0);
        log.step(0);
        checks.due("head", log.cell(0, 0), -1);

        int[] values = {0, GREATEST};
        for (int value : values) {
            checks.part("FILL: what the cell holds then is carried along, the value " + value);
            log = new SharedLog();
            log.append(1, value);
            Checks.steps(log, 1, 2);
            log.fill(0, 0);
            checks.ends(log, 0, 3, 1, value);
            checks.due("head", log.cell(0, 0), value);
            checks.due("middle", log.cell(2, 0), value);
            checks.due("tail", log.cell(4, 0), value);
        }

        checks.part("FILL: what the cell holds then is carried along, junk");
        log = new SharedLog();
        log.fill(1, 0);
        log.step(1);
        log.fill(0, 0);
        checks.ends(log, 0, 3, 1, -1);
        checks.due("tail", log.cell(4, 0), -1);

        checks.part("FILL: at the others only an unwritten cell gets what is carried");
        log = new SharedLog();
        log.append(1, 7);
        Checks.steps(log, 1, 3);
        log.fill(0, 0);
        checks.ends(log, 0, 3, 1, 7);
        checks.due("written middle", log.cell(2, 0), 7);
        checks.due("unwritten tail", log.cell(4, 0), 7);

        checks.part("FILL: behind the tail (in the same step) it ends with outcome 1, number what was carried");
        log = new SharedLog();
        Checks.appendWhole(log, 1, 7);
        log.fill(0, 0);
        checks.ends(log, 0, 3, 1, 7);
        log.fill(0, 1);
        checks.ends(log, 0, 3, 1, -1);
        log.fill(0, 1);
        checks.ends(log, 0, 3, 1, -1);
    }

    private static void reads() {
        checks.part("READ asks the tail of its position's chain");
        SharedLog log = new SharedLog();
        log.append(0, 7);
        Checks.steps(log, 0, 3);
        log.read(1, 0);
        checks.ends(log, 1, 1, 3, -2);
        log.step(0);
        log.read(1, 0);
        checks.ends(log, 1, 1, 1, 7);

        checks.part("READ: stale as above");
        Checks.reformWhole(log, 2, 1);
        log.read(1, 0);
        checks.ends(log, 1, 1, 2, 0);
        log.read(2, 0);
        checks.ends(log, 2, 1, 1, 7);

        checks.part("READ: is the cell unwritten: it ends with outcome 3, number -2");
        log = new SharedLog();
        int[] positions = {0, 1, 30, 31};
        for (int p : positions) {
            log.read(0, p);
            checks.ends(log, 0, 1, 3, -2);
        }

        checks.part("READ: else with outcome 1, number the cell");
        Checks.appendWhole(log, 0, 0);
        Checks.appendWhole(log, 0, GREATEST);
        Checks.fillWhole(log, 0, 31);
        log.read(0, 0);
        checks.ends(log, 0, 1, 1, 0);
        log.read(0, 1);
        checks.ends(log, 0, 1, 1, GREATEST);
        log.read(0, 31);
        checks.ends(log, 0, 1, 1, -1);
    }

    private static void replays() {
        replayOfNothing();
        replayOfAll();
        replayStopsAtUnwritten();
        replaySums();
        replayIsStale();
    }

    private static void replayOfNothing() {
        checks.part("REPLAY has a place, 0 at first, and a sum, 0 at first: up to 0");
        SharedLog log = new SharedLog();
        log.replay(0, 0);
        checks.ends(log, 0, 1, 1, 0);
        Checks.appendWhole(log, 0, 7);
        log.replay(0, 1);
        checks.ends(log, 0, 2, 1, 7);
        log.replay(0, 0);
        checks.ends(log, 0, 1, 1, 0);
        log.replay(0, 1);
        checks.ends(log, 0, 2, 1, 7);
    }

    private static void replayOfAll() {
        checks.part("REPLAY: is the place the one it goes up to: it ends with outcome 1, number the sum: up to 32");
        SharedLog log = new SharedLog();
        Checks.reformWhole(log, 0, 63 - 1 - 2);
        int sum = 0;
        for (int p = 0; p <= 31; p++) {
            Checks.appendWhole(log, 0, 1000 - p);
            sum = sum * 31 + 1000 - p;
        }
        log.replay(0, 32);
        checks.ends(log, 0, 33, 1, sum);
        log.replay(0, 1);
        checks.ends(log, 0, 2, 1, 1000);
    }

    private static void replayStopsAtUnwritten() {
        checks.part("REPLAY: is the cell unwritten: it ends with outcome 3, number the place: 0");
        SharedLog log = new SharedLog();
        log.replay(0, 1);
        checks.ends(log, 0, 1, 3, 0);
        log.replay(0, 32);
        checks.ends(log, 0, 1, 3, 0);

        checks.part("REPLAY: is the cell unwritten: it ends with outcome 3, number the place: 31");
        Checks.reformWhole(log, 0, 63 - 1 - 2);
        for (int p = 0; p <= 30; p++) {
            Checks.appendWhole(log, 0, p);
        }
        log.replay(0, 32);
        checks.ends(log, 0, 32, 3, 31);
        log.replay(0, 31);
        checks.due("up to 31 asks not for position 31", log.step(0), 0);
        Checks.finish(log, 0);
        checks.due("outcome", log.outcome(0), 1);

        checks.part("REPLAY asks the tail: a position that is not on the tail is unwritten");
        log = new SharedLog();
        Checks.appendWhole(log, 0, 7);
        log.append(0, 8);
        Checks.steps(log, 0, 3);
        log.replay(1, 2);
        checks.ends(log, 1, 2, 3, 1);
    }

    private static void replaySums() {
        checks.part("REPLAY: junk: the place grows by 1");
        SharedLog log = new SharedLog();
        Checks.fillWhole(log, 0, 0);
        log.replay(0, 1);
        checks.ends(log, 0, 2, 1, 0);
        Checks.appendWhole(log, 0, 7);
        Checks.fillWhole(log, 0, 2);
        log.replay(0, 3);
        checks.ends(log, 0, 4, 1, 7);

        checks.part("REPLAY: a value v: the sum becomes sum * 31 + v, the place grows by 1");
        Checks.appendWhole(log, 0, 11);
        log.replay(0, 4);
        checks.ends(log, 0, 5, 1, 7 * 31 + 11);
        Checks.appendWhole(log, 0, 0);
        log.replay(0, 5);
        checks.ends(log, 0, 6, 1, (7 * 31 + 11) * 31);

        checks.part("REPLAY: the sum wraps");
        log = new SharedLog();
        for (int p = 0; p < 4; p++) {
            Checks.appendWhole(log, 0, GREATEST);
        }
        // (2^30 - 1) * (1 + 31) = 2^35 - 32, of which the lower 32 bits are those of -32.
        log.replay(0, 2);
        checks.ends(log, 0, 3, 1, -32);
        log.replay(0, 3);
        checks.ends(log, 0, 4, 1, 1073740831);
        log.replay(0, 4);
        checks.ends(log, 0, 5, 1, -30784);
        log.replay(0, 1);
        checks.ends(log, 0, 2, 1, GREATEST);

        checks.part("REPLAY: the sum may be the greatest and the least int");
        log = new SharedLog();
        Checks.appendWhole(log, 0, 69273666);
        Checks.appendWhole(log, 0, 1);
        log.replay(0, 2);
        checks.ends(log, 0, 3, 1, Integer.MAX_VALUE);
        log = new SharedLog();
        Checks.appendWhole(log, 0, 69273666);
        Checks.appendWhole(log, 0, 2);
        log.replay(0, 2);
        checks.ends(log, 0, 3, 1, Integer.MIN_VALUE);
    }

    private static void replayIsStale() {
        for (int place = 0; place < 3; place++) {
            checks.part("REPLAY: stale as above, at place " + place);
            SharedLog log = new SharedLog();
            for (int p = 0; p < 3; p++) {
                Checks.appendWhole(log, 0, 7 + p);
            }
            log.replay(0, 3);
            Checks.steps(log, 0, place);
            Checks.reformWhole(log, 1, 0);
            checks.ends(log, 0, 1, 2, 0);
        }

        checks.part("REPLAY: a place that is the one it goes up to is never stale");
        SharedLog log = new SharedLog();
        Checks.appendWhole(log, 0, 7);
        log.replay(0, 1);
        log.step(0);
        Checks.reformWhole(log, 1, 0);
        checks.ends(log, 0, 1, 1, 7);
        log.replay(0, 0);
        checks.ends(log, 0, 1, 1, 0);
    }

    private static void reformSeals() {
        reformSealsTheLowestFirst();
        reformLeavesOut();
        reformAtTooHighEpoch();
    }

    private static void reformSealsTheLowestFirst() {
        checks.part("REFORM seals them one a step, the lowest number first; its epoch becomes the client's + 1");
        SharedLog log = new SharedLog();
        log.reform(0, 0);
        for (int done = 0; done <= 5; done++) {
            for (int u = 0; u <= 5; u++) {
                checks.due("unit " + u + " after " + done, log.unitEpoch(u), u < done ? 1 : 0);
            }
            checks.due("step " + done, log.step(0), 0);
        }
        checks.due("the last unit", log.unitEpoch(5), 1);

        checks.part("REFORM: in the step after the last one");
        checks.due("still busy", log.busy(0), 5);
        checks.due("still the old epoch", log.epochOf(0), 0);
        checks.due("the store's epoch is still 0", log.refresh(1), 0);
        checks.ends(log, 0, 1, 1, 1);
    }

    private static void reformLeavesOut() {
        checks.part("REFORM has survivors: the client's members without those of its mask");
        SharedLog log = new SharedLog();
        log.reform(0, 1 + 32);
        checks.ends(log, 0, 5, 1, 1);
        checks.due("members", log.membersOf(0), 30);
        checks.due("unit 0 is not sealed", log.unitEpoch(0), 0);
        checks.due("unit 5 is not sealed", log.unitEpoch(5), 0);
        log.reform(0, 0);
        checks.ends(log, 0, 5, 1, 2);
        checks.due("who was left out stays out", log.membersOf(0), 30);
        log.reform(0, 1 + 2 + 32);
        checks.ends(log, 0, 4, 1, 3);
        checks.due("a mask may name who is out already", log.membersOf(0), 28);
        checks.due("unit 0 is never sealed", log.unitEpoch(0), 0);
    }

    private static void reformAtTooHighEpoch() {
        checks.part("REFORM: a unit's epoch that is the client's + 1 is sealed again");
        SharedLog log = new SharedLog();
        Checks.reformWhole(log, 0, 0);
        log.reform(1, 0);
        for (int u = 0; u <= 5; u++) {
            checks.due("unit " + u, log.step(1), 0);
            checks.due("epoch of unit " + u, log.unitEpoch(u), 1);
        }

        checks.part("REFORM: is the unit's epoch above the client's + 1: stale");
        log = new SharedLog();
        Checks.reformWhole(log, 0, 0);
        Checks.reformWhole(log, 0, 0);
        log.reform(1, 0);
        checks.ends(log, 1, 1, 2, 0);
        checks.due("the unit keeps its epoch", log.unitEpoch(0), 2);
        checks.due("the client keeps its epoch", log.epochOf(1), 0);
        checks.due("the client keeps its members", log.membersOf(1), 63);

        checks.part("REFORM: stale at a later unit leaves the lower ones sealed");
        log = new SharedLog();
        Checks.reformWhole(log, 0, 1);
        Checks.reformWhole(log, 0, 0);
        log.reform(1, 0);
        checks.ends(log, 1, 2, 2, 0);
        checks.due("unit 0", log.unitEpoch(0), 1);
        checks.due("unit 1", log.unitEpoch(1), 2);
        checks.due("the store", log.refresh(2), 2);
        checks.due("next", log.tail(), 0);
    }

    private static void reformEnds() {
        checks.part("REFORM: a unit's END is 0 if none is written");
        SharedLog log = new SharedLog();
        log.append(0, 7);
        log.step(0);
        checks.due("handed out", log.tail(), 1);
        Checks.reformWhole(log, 1, 0);
        checks.due("next", log.tail(), 0);

        int[] highest = {0, 1, 30, 31};
        for (int p : highest) {
            checks.part("REFORM: a unit's END is the highest position whose cell is written + 1: " + p);
            log = new SharedLog();
            Checks.fillWhole(log, 0, p);
            Checks.fillWhole(log, 0, p / 2);
            Checks.reformWhole(log, 0, 0);
            checks.due("next", log.tail(), p + 1);
        }

        checks.part("REFORM: a value counts for the END as junk does");
        log = new SharedLog();
        Checks.appendWhole(log, 0, 0);
        Checks.appendWhole(log, 0, GREATEST);
        log.loseSequencer();
        Checks.reformWhole(log, 0, 0);
        checks.due("next", log.tail(), 2);

        for (int unit = 0; unit <= 5; unit++) {
            checks.part("REFORM: the greatest of all these units' ends is kept, that of unit " + unit);
            log = new SharedLog();
            Checks.fillWhole(log, 0, 2);
            int others = (unit % 2 == 0 ? 21 : 42) - (1 << unit);
            // A chain that is made small keeps the other units of its stripe from being written.
            Checks.reformWhole(log, 0, others);
            log.fill(0, unit % 2 == 0 ? 10 : 11);
            checks.ends(log, 0, 1, 1, -1);
            Checks.reformWhole(log, 0, 0);
            checks.due("next", log.tail(), unit % 2 == 0 ? 11 : 12);
        }

        checks.part("REFORM: only the survivors' ends count");
        log = new SharedLog();
        log.fill(0, 9);
        log.step(0);
        Checks.reformWhole(log, 1, 2);
        checks.due("next", log.tail(), 0);

        checks.part("REFORM: the end of an earlier reform is forgotten");
        log = new SharedLog();
        log.fill(0, 9);
        log.step(0);
        Checks.reformWhole(log, 1, 0);
        checks.due("next", log.tail(), 10);
        Checks.reformWhole(log, 1, 2);
        checks.due("next", log.tail(), 0);

        checks.part("REFORM: what is written before the seal counts");
        log = new SharedLog();
        log.reform(0, 0);
        log.step(0);
        log.fill(1, 15);
        log.step(1);
        checks.ends(log, 0, 6, 1, 1);
        checks.due("next", log.tail(), 16);

        checks.part("REFORM: behind the seal nothing is written any more");
        log = new SharedLog();
        log.reform(0, 0);
        Checks.steps(log, 0, 3);
        log.fill(1, 15);
        checks.ends(log, 1, 1, 2, 0);
        log.append(1, 7);
        log.step(1);
        checks.ends(log, 1, 1, 2, 0);
        Checks.finish(log, 0);
        checks.due("next", log.tail(), 0);
    }

    private static void reformAtTheStore() {
        checks.part("REFORM: is the store's epoch still the client's: it ends with outcome 1, number the new epoch");
        SharedLog log = new SharedLog();
        for (int epoch = 1; epoch <= 4; epoch++) {
            log.reform(0, 0);
            checks.ends(log, 0, 7, 1, epoch);
            checks.due("epochOf", log.epochOf(0), epoch);
        }

        checks.part("REFORM: the store gets that epoch + 1 and the survivors");
        log = new SharedLog();
        Checks.reformWhole(log, 0, 4);
        checks.due("epoch", log.refresh(1), 1);
        checks.due("members", log.membersOf(1), 59);

        checks.part("REFORM: the sequencer gets the same epoch and as next the greatest end");
        checks.due("next", log.tail(), 0);
        log.append(1, 7);
        checks.due("its epoch", log.step(1), 0);
        log.append(2, 7);
        checks.ends(log, 2, 1, 2, 0);

        checks.part("REFORM: the client gets this projection, the others keep theirs");
        checks.due("own epoch", log.epochOf(0), 1);
        checks.due("own members", log.membersOf(0), 59);
        checks.due("other epoch", log.epochOf(2), 0);
        checks.due("other members", log.membersOf(2), 63);

        checks.part("REFORM: else it ends with outcome 5, number the store's epoch, and keeps its projection");
        log = new SharedLog();
        Checks.fillWhole(log, 2, 5);
        log.reform(0, 4);
        log.reform(1, 8);
        Checks.steps(log, 1, 5);
        checks.ends(log, 0, 6, 1, 1);
        log.loseSequencer();
        checks.ends(log, 1, 1, 5, 1);
        checks.due("its epoch", log.epochOf(1), 0);
        checks.due("its members", log.membersOf(1), 63);
        checks.due("the store's epoch", log.refresh(2), 1);
        checks.due("the store's members", log.membersOf(2), 59);
        checks.due("next", log.tail(), 0);
        log.append(2, 7);
        checks.due("the sequencer's epoch", log.step(2), 0);

        checks.part("REFORM: the store's epoch may be further ahead");
        log = new SharedLog();
        Checks.reformWhole(log, 0, 63 - 1 - 2);
        Checks.reformWhole(log, 0, 0);
        Checks.reformWhole(log, 0, 0);
        log.reform(1, 1 + 2);
        checks.ends(log, 1, 5, 5, 3);
        checks.due("its epoch", log.epochOf(1), 0);
    }

    private static void questionsChangeNothing() {
        for (int kind = 1; kind <= 5; kind++) {
            checks.part("Questions change nothing: kind " + kind);
            SharedLog asked = logAtPlace(kind, 0);
            SharedLog unasked = logAtPlace(kind, 0);
            asked.setUp(3, false);
            unasked.setUp(3, false);
            String first = Checks.stateOf(asked);
            for (int n = -1; n <= 6; n += 7) {
                asked.busy(n);
                asked.outcome(n);
                asked.number(n);
                asked.epochOf(n);
                asked.membersOf(n);
                asked.unitEpoch(n);
                asked.cell(n, 0);
                asked.cell(0, n < 0 ? n : 32);
            }
            checks.due("asked again", Checks.stateOf(asked), first);
            for (int i = 0; i < 8; i++) {
                checks.due("step " + i, asked.step(0), unasked.step(0));
            }
            checks.due("outcome", asked.outcome(0), unasked.outcome(0));
            checks.due("number", asked.number(0), unasked.number(0));
        }
    }
}
