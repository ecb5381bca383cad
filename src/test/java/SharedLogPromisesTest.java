/** One part for each promise of the document: ordinary inputs, the named edges, wrong inputs. */
public final class SharedLogPromisesTest {
    private static final int GREATEST = 1073741823;
    private static final int[] NO_CLIENTS = {-1, 3, Integer.MIN_VALUE, Integer.MAX_VALUE};
    private static final int[] NO_UNITS = {-1, 6, Integer.MIN_VALUE, Integer.MAX_VALUE};
    private static final int[] NO_POSITIONS = {-1, 32, Integer.MIN_VALUE, Integer.MAX_VALUE};

    private static final Checks checks = new Checks();

    public static void main(String[] args) {
        newObject();
        appendBegins();
        appendGoesAlongItsChain();
        appendMeetsWrittenCells();
        appendMeetsTheFullLog();
        appendIsStale();
        fillBegins();
        fillCarriesAlong();
        fillIsStale();
        readBegins();
        readAsksTheTail();
        chainsOfOneUnit();
        replayBegins();
        replaySums();
        replayStops();
        reformBegins();
        reformSealsAndInstalls();
        reformKeepsTheGreatestEnd();
        reformIsOvertakenOrStale();
        reformAfterReform();
        stepAnswers();
        stepWaitsForTheUnit();
        refresh();
        setUp();
        loseSequencer();
        busy();
        outcomeAndNumber();
        projectionOfAClient();
        tail();
        unitEpoch();
        cell();
        refusedCallsChangeNothing();
        objectsAreApart();
        checks.exitWithResult();
    }

    private static void newObject() {
        checks.part("1 a new object");
        SharedLog log = new SharedLog();
        checks.due("tail", log.tail(), 0);
        for (int c = 0; c < 3; c++) {
            checks.due("busy", log.busy(c), 0);
            checks.due("outcome", log.outcome(c), 0);
            checks.due("number", log.number(c), 0);
            checks.due("epochOf", log.epochOf(c), 0);
            checks.due("membersOf", log.membersOf(c), 63);
            checks.due("step of an idle client", log.step(c), -2);
            checks.due("refresh takes the store's epoch", log.refresh(c), 0);
            checks.due("refresh takes the store's members", log.membersOf(c), 63);
        }
        for (int u = 0; u < 6; u++) {
            checks.due("unitEpoch", log.unitEpoch(u), 0);
            for (int p = 0; p < 32; p++) {
                checks.due("cell", log.cell(u, p), -2);
            }
        }
        log.fill(0, 0);
        checks.ends(log, 0, 3, 1, -1);
        log.fill(0, 1);
        checks.ends(log, 0, 3, 1, -1);
    }

    private static void appendBegins() {
        checks.part("2 append begins");
        SharedLog log = new SharedLog();
        for (int c : NO_CLIENTS) {
            checks.due("no client, good value", log.append(c, 1), -1);
            checks.due("no client, bad value", log.append(c, -1), -1);
        }
        checks.due("value -1", log.append(0, -1), -3);
        checks.due("value -2", log.append(0, -2), -3);
        checks.due("least int", log.append(0, Integer.MIN_VALUE), -3);
        checks.due("one too great", log.append(0, GREATEST + 1), -3);
        checks.due("greatest int", log.append(0, Integer.MAX_VALUE), -3);
        checks.due("still idle", log.busy(0), 0);
        checks.due("value 0", log.append(0, 0), 0);
        checks.due("greatest value", log.append(2, GREATEST), 0);
        checks.due("kind", log.busy(2), 1);
        checks.due("busy, good value", log.append(0, 1), -2);
        checks.due("busy, bad value", log.append(0, -1), -2);
        checks.due("beginning asks nobody", log.tail(), 0);
        checks.ends(log, 2, 4, 1, 0);
        checks.due("cell", log.cell(0, 0), GREATEST);
        checks.ends(log, 0, 4, 1, 1);
        checks.due("cell", log.cell(5, 1), 0);
        log.append(0, 3);
        checks.due("outcome made 0", log.outcome(0), 0);
        checks.due("number made 0", log.number(0), 0);
    }

    private static void appendGoesAlongItsChain() {
        checks.part("2 append goes along its chain");
        SharedLog log = new SharedLog();
        Checks.appendWhole(log, 0, 100);
        log.append(1, 7);
        for (int done = 0; done < 4; done++) {
            checks.due("tail", log.tail(), done == 0 ? 1 : 2);
            checks.due("head", log.cell(1, 1), done > 1 ? 7 : -2);
            checks.due("middle", log.cell(3, 1), done > 2 ? 7 : -2);
            checks.due("last", log.cell(5, 1), -2);
            checks.due("step", log.step(1), done == 3 ? 1 : 0);
        }
        checks.due("last", log.cell(5, 1), 7);
        checks.due("other stripe", log.cell(0, 1) + log.cell(2, 1) + log.cell(4, 1), -6);

        Checks.reformWhole(log, 2, 1 + 4 + 2);
        log.append(2, 8);
        checks.ends(log, 2, 2, 1, 2);
        checks.due("head that is the tail too", log.cell(4, 2), 8);
        checks.due("left out", log.cell(0, 2) + log.cell(2, 2), -4);
        log.append(2, 9);
        checks.ends(log, 2, 3, 1, 3);
        checks.due("chain of two", log.cell(3, 3) + log.cell(5, 3), 18);
        checks.due("left out", log.cell(1, 3), -2);
    }

    private static void appendMeetsWrittenCells() {
        checks.part("2 append meets written cells");
        SharedLog log = new SharedLog();
        Checks.fillWhole(log, 1, 0);
        Checks.fillWhole(log, 1, 1);
        log.append(0, 5);
        checks.ends(log, 0, 8, 1, 2);
        checks.due("junk stays", log.cell(0, 0), -1);
        checks.due("written behind", log.cell(4, 2), 5);

        log = new SharedLog();
        log.append(0, 6);
        Checks.steps(log, 0, 2);
        Checks.fillWhole(log, 1, 0);
        checks.due("fill carried the value", log.number(1), 6);
        checks.ends(log, 0, 2, 1, 0);

        log = new SharedLog();
        log.append(0, 1);
        log.append(1, 2);
        log.step(0);
        log.loseSequencer();
        log.step(1);
        checks.due("handed out twice", log.tail(), 1);
        log.step(1);
        checks.due("the first to write", log.cell(0, 0), 2);
        log.step(0);
        checks.due("gave up, still busy", log.busy(0), 1);
        checks.due("gave up, took none yet", log.tail(), 1);
        checks.ends(log, 0, 4, 1, 1);
        checks.ends(log, 1, 2, 1, 0);

        log = new SharedLog();
        Checks.appendWhole(log, 0, 3);
        Checks.reformWhole(log, 0, 1 + 4);
        log.loseSequencer();
        log.append(0, 4);
        checks.ends(log, 0, 6, 1, 1);
        checks.due("sole unit's cell stays", log.cell(4, 0), 3);
    }

    private static void appendMeetsTheFullLog() {
        checks.part("2 append meets the full log");
        SharedLog log = new SharedLog();
        for (int p = 0; p < 32; p++) {
            Checks.appendWhole(log, p % 3, p);
            checks.due("position", log.number(p % 3), p);
        }
        checks.due("tail", log.tail(), 32);
        log.append(0, 1);
        checks.ends(log, 0, 1, 4, 0);
        checks.due("tail", log.tail(), 32);
        log.loseSequencer();
        log.append(0, 1);
        checks.ends(log, 0, 65, 4, 0);
        checks.due("tail", log.tail(), 32);
        Checks.reformWhole(log, 0, 0);
        checks.due("tail at the greatest end", log.tail(), 32);
        log.append(1, 1);
        checks.ends(log, 1, 1, 2, 0);
    }

    private static void appendIsStale() {
        checks.part("2 append is stale");
        SharedLog log = new SharedLog();
        log.append(0, 4);
        log.step(0);
        log.append(1, 5);
        Checks.reformWhole(log, 2, 0);
        checks.ends(log, 0, 1, 2, 0);
        checks.due("nothing written", log.cell(0, 0), -2);
        checks.ends(log, 1, 1, 2, 0);
        checks.due("nothing handed out", log.tail(), 0);

        log = new SharedLog();
        log.append(0, 4);
        Checks.steps(log, 0, 2);
        log.reform(1, 0);
        Checks.steps(log, 1, 2);
        checks.due("unit 2 is not sealed yet", log.step(0), 0);
        checks.due("written", log.cell(2, 0), 4);
        Checks.steps(log, 1, 3);
        checks.ends(log, 0, 1, 2, 0);
        checks.due("sealed tail", log.cell(4, 0), -2);
        log.append(0, 8);
        checks.due("sequencer still has epoch 0", log.step(0), 0);
        checks.due("tail", log.tail(), 2);
        checks.ends(log, 0, 1, 2, 0);
        Checks.finish(log, 1);
        checks.due("end of the half written", log.tail(), 1);
    }

    private static void fillBegins() {
        checks.part("3 fill begins");
        SharedLog log = new SharedLog();
        for (int c : NO_CLIENTS) {
            checks.due("no client", log.fill(c, 0), -1);
            checks.due("no client, no position", log.fill(c, 32), -1);
        }
        for (int p : NO_POSITIONS) {
            checks.due("no position", log.fill(1, p), -3);
        }
        checks.due("still idle", log.busy(1), 0);
        checks.due("last position", log.fill(1, 31), 0);
        checks.due("kind", log.busy(1), 2);
        checks.due("busy", log.fill(1, 0), -2);
        checks.due("busy, no position", log.fill(1, 32), -2);
        checks.ends(log, 1, 3, 1, -1);
        checks.due("first position", log.fill(1, 0), 0);
        checks.due("outcome made 0", log.outcome(1), 0);
        checks.due("number made 0", log.number(1), 0);
        checks.ends(log, 1, 3, 1, -1);
        checks.due("fill takes no position from the sequencer", log.tail(), 0);
    }

    private static void fillCarriesAlong() {
        checks.part("3 fill carries along");
        SharedLog log = new SharedLog();
        log.fill(0, 5);
        log.step(0);
        checks.due("one unit a step", log.cell(1, 5) * 100 + log.cell(3, 5), -102);
        log.step(0);
        checks.due("one unit a step", log.cell(3, 5) * 100 + log.cell(5, 5), -102);
        log.step(0);
        checks.due("tail", log.cell(5, 5), -1);
        checks.due("other stripe", log.cell(0, 5) + log.cell(2, 5) + log.cell(4, 5), -6);

        log.append(1, 0);
        Checks.steps(log, 1, 2);
        log.fill(2, 0);
        checks.ends(log, 2, 3, 1, 0);
        checks.due("value 0 carried", log.cell(2, 0) + log.cell(4, 0), 0);
        log.fill(2, 0);
        checks.ends(log, 2, 3, 1, 0);
        checks.ends(log, 1, 2, 1, 0);

        log = new SharedLog();
        log.fill(0, 0);
        log.step(0);
        log.fill(1, 0);
        checks.ends(log, 1, 3, 1, -1);
        checks.due("junk carried", log.cell(4, 0), -1);
        checks.ends(log, 0, 2, 1, -1);

        log = new SharedLog();
        Checks.reformWhole(log, 0, 1 + 4);
        Checks.appendWhole(log, 0, 12);
        log.fill(0, 0);
        checks.ends(log, 0, 1, 1, 12);
        log.fill(0, 2);
        checks.ends(log, 0, 1, 1, -1);
        checks.due("only the sole unit", log.cell(0, 2) * 10 + log.cell(4, 2), -21);
    }

    private static void fillIsStale() {
        checks.part("3 fill is stale");
        SharedLog log = new SharedLog();
        log.fill(0, 1);
        log.step(0);
        Checks.reformWhole(log, 1, 2);
        checks.ends(log, 0, 1, 2, 0);
        checks.due("head has junk", log.cell(1, 1), -1);
        checks.due("sealed one has none", log.cell(3, 1), -2);
        log.fill(0, 3);
        checks.due("left out unit is not sealed", log.step(0), 0);
        checks.due("it takes the junk", log.cell(1, 3), -1);
        checks.ends(log, 0, 1, 2, 0);
        Checks.appendWhole(log, 1, 40);
        Checks.appendWhole(log, 1, 41);
        checks.due("left out head does not count", log.number(1), 1);
        checks.due("new chain", log.cell(3, 1), 41);
        log.refresh(0);
        log.fill(0, 1);
        checks.ends(log, 0, 2, 1, 41);

        log.fill(1, 3);
        checks.ends(log, 1, 2, 1, -1);
    }

    private static void readBegins() {
        checks.part("4 read begins");
        SharedLog log = new SharedLog();
        for (int c : NO_CLIENTS) {
            checks.due("no client", log.read(c, 0), -1);
            checks.due("no client, no position", log.read(c, -1), -1);
        }
        for (int p : NO_POSITIONS) {
            checks.due("no position", log.read(2, p), -3);
        }
        checks.due("still idle", log.busy(2), 0);
        checks.due("last position", log.read(2, 31), 0);
        checks.due("kind", log.busy(2), 3);
        checks.due("busy", log.read(2, 0), -2);
        checks.due("busy, no position", log.read(2, -1), -2);
        checks.ends(log, 2, 1, 3, -2);
        checks.due("first position", log.read(2, 0), 0);
        checks.due("outcome made 0", log.outcome(2), 0);
        checks.due("number made 0", log.number(2), 0);
        checks.ends(log, 2, 1, 3, -2);
    }

    private static void readAsksTheTail() {
        checks.part("4 read asks the tail");
        SharedLog log = new SharedLog();
        log.append(0, 0);
        Checks.steps(log, 0, 3);
        log.read(1, 0);
        checks.ends(log, 1, 1, 3, -2);
        log.step(0);
        log.read(1, 0);
        checks.ends(log, 1, 1, 1, 0);
        Checks.appendWhole(log, 0, GREATEST);
        log.read(1, 1);
        checks.ends(log, 1, 1, 1, GREATEST);
        Checks.fillWhole(log, 0, 31);
        log.read(1, 31);
        checks.ends(log, 1, 1, 1, -1);

        log.append(0, 77);
        Checks.steps(log, 0, 3);
        Checks.reformWhole(log, 2, 16);
        log.read(1, 2);
        checks.due("left out unit is not sealed", log.unitEpoch(4), 0);
        checks.ends(log, 1, 1, 3, -2);
        log.read(2, 2);
        checks.ends(log, 2, 1, 1, 77);
        log.read(1, 1);
        checks.ends(log, 1, 1, 2, 0);
        log.setUp(5, false);
        log.read(1, 1);
        checks.due("tail is down", log.step(1), -3);
        log.setUp(0, false);
        log.setUp(2, false);
        checks.ends(log, 0, 1, 1, 2);
        log.read(0, 2);
        checks.ends(log, 0, 1, 1, 77);
    }

    private static void chainsOfOneUnit() {
        checks.part("4 read, 5 replay in chains of one unit");
        for (int even = 0; even < 6; even += 2) {
            int odd = 5 - even;
            SharedLog log = new SharedLog();
            Checks.reformWhole(log, 0, 63 - (1 << even) - (1 << odd));
            Checks.appendWhole(log, 0, 21);
            Checks.appendWhole(log, 0, 22);
            checks.due("written", log.cell(even, 0) * 100 + log.cell(odd, 1), 2122);
            log.read(0, 0);
            checks.ends(log, 0, 1, 1, 21);
            log.read(0, 1);
            checks.ends(log, 0, 1, 1, 22);
            log.read(0, 2);
            checks.ends(log, 0, 1, 3, -2);
            log.replay(0, 2);
            checks.ends(log, 0, 3, 1, 21 * 31 + 22);
        }
    }

    private static void replayBegins() {
        checks.part("5 replay begins");
        SharedLog log = new SharedLog();
        for (int c : NO_CLIENTS) {
            checks.due("no client", log.replay(c, 0), -1);
            checks.due("no client, bad upto", log.replay(c, 33), -1);
        }
        checks.due("upto -1", log.replay(0, -1), -3);
        checks.due("upto 33", log.replay(0, 33), -3);
        checks.due("least int", log.replay(0, Integer.MIN_VALUE), -3);
        checks.due("greatest int", log.replay(0, Integer.MAX_VALUE), -3);
        checks.due("still idle", log.busy(0), 0);
        checks.due("upto 32", log.replay(0, 32), 0);
        checks.due("kind", log.busy(0), 4);
        checks.due("busy", log.replay(0, 1), -2);
        checks.due("busy, bad upto", log.replay(0, 33), -2);
        checks.ends(log, 0, 1, 3, 0);
        checks.due("upto 0", log.replay(0, 0), 0);
        checks.due("outcome made 0", log.outcome(0), 0);
        checks.ends(log, 0, 1, 1, 0);
    }

    private static void replaySums() {
        checks.part("5 replay sums");
        SharedLog log = new SharedLog();
        int sum = 0;
        for (int p = 0; p < 32; p++) {
            if (p % 5 == 3) {
                Checks.fillWhole(log, 0, p);
            } else {
                int value = GREATEST - 1000 * p;
                log.append(0, value);
                Checks.finish(log, 0);
                checks.due("position", log.number(0), p);
                sum = sum * 31 + value;
            }
        }
        log.replay(1, 32);
        checks.ends(log, 1, 33, 1, sum);
        log.replay(1, 4);
        int four = (GREATEST * 31 + GREATEST - 1000) * 31 + GREATEST - 2000;
        checks.ends(log, 1, 5, 1, four);
        log.replay(1, 3);
        checks.ends(log, 1, 4, 1, four);
        for (int u = 0; u < 6; u++) {
            log.setUp(u, false);
        }
        log.replay(1, 0);
        checks.ends(log, 1, 1, 1, 0);
        log.replay(1, 1);
        checks.due("tail is down", log.step(1), -3);
        log.setUp(4, true);
        checks.due("goes on", log.step(1), 0);
        checks.due("the end asks no unit", log.step(1), 1);
        checks.due("number", log.number(1), GREATEST);
    }

    private static void replayStops() {
        checks.part("5 replay stops");
        SharedLog log = new SharedLog();
        Checks.appendWhole(log, 0, 2);
        Checks.fillWhole(log, 0, 1);
        log.fill(0, 2);
        Checks.steps(log, 0, 2);
        log.replay(1, 3);
        checks.ends(log, 1, 3, 3, 2);
        log.step(0);
        log.replay(1, 3);
        checks.ends(log, 1, 4, 1, 2);

        log.replay(1, 3);
        log.step(1);
        Checks.reformWhole(log, 2, 16);
        checks.ends(log, 1, 1, 2, 0);
        log.replay(1, 2);
        checks.due("left out tail still answers", log.step(1), 0);
        checks.ends(log, 1, 1, 2, 0);
        log.replay(2, 3);
        checks.ends(log, 2, 4, 1, 2);
    }

    private static void reformBegins() {
        checks.part("6 reform begins");
        SharedLog log = new SharedLog();
        for (int c : NO_CLIENTS) {
            checks.due("no client", log.reform(c, 0), -1);
            checks.due("no client, bad mask", log.reform(c, 64), -1);
        }
        checks.due("mask -1", log.reform(0, -1), -3);
        checks.due("mask 64", log.reform(0, 64), -3);
        checks.due("least int", log.reform(0, Integer.MIN_VALUE), -3);
        checks.due("greatest int", log.reform(0, Integer.MAX_VALUE), -3);
        checks.due("no even survivor", log.reform(0, 21), -4);
        checks.due("no odd survivor", log.reform(0, 42), -4);
        checks.due("no survivor", log.reform(0, 63), -4);
        checks.due("still idle", log.busy(0), 0);
        checks.due("mask 0", log.reform(0, 0), 0);
        checks.due("kind", log.busy(0), 5);
        checks.due("busy", log.reform(0, 0), -2);
        checks.due("busy, bad mask", log.reform(0, 64), -2);
        checks.due("busy, no survivor", log.reform(0, 63), -2);
        checks.ends(log, 0, 7, 1, 1);
        checks.due("one unit of each stripe left", log.reform(0, 63 - 1 - 32), 0);
        checks.due("outcome made 0", log.outcome(0), 0);
        checks.due("number made 0", log.number(0), 0);
        checks.ends(log, 0, 3, 1, 2);
        checks.due("members", log.membersOf(0), 33);
        checks.due("units that are left out already", log.reform(0, 30), 0);
        checks.ends(log, 0, 3, 1, 3);
        checks.due("last of its stripe", log.reform(0, 1), -4);
        checks.due("last of its stripe", log.reform(0, 32), -4);
        checks.due("an old client looks at its own members", log.reform(1, 1), 0);
    }

    private static void reformSealsAndInstalls() {
        checks.part("6 reform seals and installs");
        SharedLog log = new SharedLog();
        Checks.appendWhole(log, 0, 1);
        log.reform(0, 2 + 16);
        int[] survivors = {0, 2, 3, 5};
        for (int i = 0; i < survivors.length; i++) {
            checks.due("not sealed yet", log.unitEpoch(survivors[i]), 0);
            checks.due("step", log.step(0), 0);
            checks.due("sealed", log.unitEpoch(survivors[i]), 1);
        }
        checks.due("left out", log.unitEpoch(1) + log.unitEpoch(4), 0);
        checks.due("store keeps its epoch", log.refresh(1), 0);
        checks.due("client keeps its epoch", log.epochOf(0), 0);
        checks.due("client keeps its members", log.membersOf(0), 63);
        log.loseSequencer();
        for (int u = 0; u < 6; u++) {
            log.setUp(u, false);
        }
        checks.ends(log, 0, 1, 1, 1);
        checks.due("epoch", log.epochOf(0), 1);
        checks.due("members", log.membersOf(0), 45);
        checks.due("next is the end", log.tail(), 1);
        checks.due("others keep theirs", log.membersOf(1), 63);
        checks.due("refresh", log.refresh(1), 1);
        checks.due("members of the store", log.membersOf(1), 45);
        log.append(1, 3);
        checks.due("the sequencer has the new epoch", log.step(1), 0);
        checks.due("tail", log.tail(), 2);
    }

    private static void reformKeepsTheGreatestEnd() {
        checks.part("6 reform keeps the greatest end");
        SharedLog log = new SharedLog();
        Checks.reformWhole(log, 0, 0);
        checks.due("nothing written", log.tail(), 0);
        log.fill(0, 9);
        log.step(0);
        Checks.reformWhole(log, 1, 0);
        checks.due("stale reform leaves next", log.tail(), 0);
        log.refresh(1);
        Checks.reformWhole(log, 1, 0);
        checks.due("junk counts, on one unit too", log.tail(), 10);
        log.refresh(2);
        Checks.reformWhole(log, 2, 2);
        checks.due("left out unit does not count", log.tail(), 0);

        log = new SharedLog();
        Checks.fillWhole(log, 0, 30);
        Checks.fillWhole(log, 0, 3);
        Checks.reformWhole(log, 0, 0);
        checks.due("highest, not latest", log.tail(), 31);
        Checks.fillWhole(log, 0, 31);
        Checks.reformWhole(log, 0, 0);
        checks.due("last position", log.tail(), 32);
        log.append(0, 1);
        checks.ends(log, 0, 1, 4, 0);

        log = new SharedLog();
        for (int i = 0; i < 3; i++) {
            log.append(0, i);
            log.step(0);
            log.setUp(i % 2, false);
            Checks.finish(log, 0);
            log.setUp(i % 2, true);
            Checks.finish(log, 0);
        }
        log.append(0, 9);
        log.step(0);
        checks.due("handed out", log.tail(), 4);
        Checks.reformWhole(log, 1, 0);
        checks.due("handed out but not written", log.tail(), 3);

        log = new SharedLog();
        log.reform(0, 0);
        log.step(0);
        log.fill(1, 7);
        log.step(1);
        Checks.finish(log, 0);
        checks.due("written before its unit is sealed", log.tail(), 8);

        log = new SharedLog();
        log.reform(0, 0);
        Checks.steps(log, 0, 2);
        log.fill(1, 7);
        checks.ends(log, 1, 1, 2, 0);
        Checks.finish(log, 0);
        checks.due("sealed unit takes no more", log.tail(), 0);

        log = new SharedLog();
        Checks.fillWhole(log, 0, 20);
        Checks.reformWhole(log, 0, 0);
        checks.due("end of the even units", log.tail(), 21);
        log.fill(0, 25);
        Checks.steps(log, 0, 1);
        log.refresh(1);
        Checks.reformWhole(log, 1, 0);
        checks.due("end of unit 1 alone", log.tail(), 26);
        Checks.reformWhole(log, 1, 2);
        checks.due("each reform looks for the end anew", log.tail(), 21);
    }

    private static void reformIsOvertakenOrStale() {
        checks.part("6 reform is overtaken or stale");
        SharedLog log = new SharedLog();
        log.reform(0, 1);
        log.reform(1, 2);
        Checks.steps(log, 1, 5);
        checks.ends(log, 0, 6, 1, 1);
        Checks.appendWhole(log, 0, 5);
        checks.ends(log, 1, 1, 5, 1);
        checks.due("keeps its epoch", log.epochOf(1), 0);
        checks.due("keeps its members", log.membersOf(1), 63);
        checks.due("the store keeps its members", log.refresh(2) * 100 + log.membersOf(2), 162);
        checks.due("next stays", log.tail(), 1);

        log.reform(1, 0);
        checks.due("unit at the client's epoch + 1 is sealed again", log.step(1), 0);
        Checks.reformWhole(log, 0, 0);
        checks.due("second reform", log.number(0), 2);
        checks.ends(log, 1, 1, 2, 0);
        checks.due("unit 1 keeps its epoch", log.unitEpoch(1), 2);
        checks.due("unit 0 was sealed by the overtaken one", log.unitEpoch(0), 1);

        log = new SharedLog();
        log.reform(0, 63 - 1 - 2);
        log.reform(1, 63 - 4 - 8);
        checks.ends(log, 0, 3, 1, 1);
        log.reform(0, 0);
        checks.ends(log, 0, 3, 1, 2);
        checks.ends(log, 1, 3, 5, 2);
        checks.due("its survivors stay sealed", log.unitEpoch(2) * 10 + log.unitEpoch(3), 11);
    }

    private static void reformAfterReform() {
        checks.part("6 reform after reform");
        SharedLog log = new SharedLog();
        for (int epoch = 1; epoch <= 10; epoch++) {
            int client = epoch % 3;
            log.refresh(client);
            log.reform(client, epoch == 2 ? 4 : 0);
            checks.ends(log, client, epoch < 2 ? 7 : 6, 1, epoch);
            checks.due("epoch of unit 5", log.unitEpoch(5), epoch);
            checks.due("epoch of unit 2", log.unitEpoch(2), 1);
        }
        log.refresh(0);
        checks.due("members", log.membersOf(0), 59);
        log.append(0, 6);
        checks.ends(log, 0, 3, 1, 0);

        log = new SharedLog();
        log.reform(0, 0);
        Checks.steps(log, 0, 3);
        Checks.reformWhole(log, 1, 0);
        checks.due("seals over a half done reform", log.outcome(1), 1);
    }

    private static void stepAnswers() {
        checks.part("7 step");
        SharedLog log = new SharedLog();
        for (int c : NO_CLIENTS) {
            checks.due("no client", log.step(c), -1);
        }
        checks.due("idle", log.step(2), -2);
        log.append(2, 1);
        for (int c : NO_CLIENTS) {
            checks.due("no client", log.step(c), -1);
        }
        checks.due("others are idle", log.step(0) + log.step(1), -4);
        checks.ends(log, 2, 4, 1, 0);
    }

    private static void stepWaitsForTheUnit() {
        checks.part("7 step waits for the unit");
        for (int kind = 1; kind <= 5; kind++) {
            SharedLog log = new SharedLog();
            Checks.appendWhole(log, 1, 8);
            if (kind == 1) {
                log.append(0, 4);
                log.step(0);
            } else if (kind == 2) {
                log.fill(0, 1);
            } else if (kind == 3) {
                log.read(0, 0);
            } else if (kind == 4) {
                log.replay(0, 1);
            } else {
                log.reform(0, 1);
            }
            int asked = kind == 3 || kind == 4 ? 4 : 1;
            log.setUp(asked, false);
            String before = Checks.stateOf(log);
            checks.due("kind " + kind + " down", log.step(0), -3);
            checks.due("kind " + kind + " down again", log.step(0), -3);
            checks.due("kind " + kind, Checks.stateOf(log), before);
            for (int u = 0; u < 6; u++) {
                log.setUp(u, u == asked);
            }
            checks.due("kind " + kind + " up", log.step(0), kind == 3 ? 1 : 0);
        }

        SharedLog log = new SharedLog();
        log.fill(0, 0);
        log.setUp(0, false);
        Checks.reformWhole(log, 1, 1);
        checks.due("down, left out", log.step(0), -3);
        log.setUp(0, true);
        checks.due("up again, old epoch", log.step(0), 0);
        log.setUp(2, false);
        checks.due("down comes before stale", log.step(0), -3);
        log.setUp(2, true);
        checks.ends(log, 0, 1, 2, 0);

        for (int u = 0; u < 6; u++) {
            log.setUp(u, false);
        }
        log.append(1, 1);
        checks.due("the sequencer is no unit", log.step(1), 0);
        checks.due("the unit is down", log.step(1), -3);
    }

    private static void refresh() {
        checks.part("8 refresh");
        SharedLog log = new SharedLog();
        for (int c : NO_CLIENTS) {
            checks.due("no client", log.refresh(c), -1);
        }
        Checks.fillWhole(log, 1, 4);
        log.read(2, 4);
        Checks.reformWhole(log, 0, 8);
        checks.due("own projection stays until then", log.epochOf(1) * 100 + log.membersOf(1), 63);
        checks.due("refresh", log.refresh(1), 1);
        checks.due("epoch", log.epochOf(1), 1);
        checks.due("members", log.membersOf(1), 55);
        checks.due("outcome stays", log.outcome(1), 1);
        checks.due("number stays", log.number(1), -1);
        checks.due("again", log.refresh(1), 1);
        checks.due("busy", log.refresh(2), -2);
        checks.due("busy keeps its epoch", log.epochOf(2), 0);
        checks.due("busy keeps its members", log.membersOf(2), 63);
        checks.ends(log, 2, 1, 2, 0);
        checks.due("idle again", log.refresh(2), 1);
        checks.due("outcome stays", log.outcome(2), 2);
        checks.due("the one who reformed", log.refresh(0), 1);
    }

    private static void setUp() {
        checks.part("9 setUp");
        SharedLog log = new SharedLog();
        for (int u : NO_UNITS) {
            checks.due("no unit down", log.setUp(u, false), false);
            checks.due("no unit up", log.setUp(u, true), false);
        }
        for (int u = 0; u < 6; u++) {
            checks.due("up already", log.setUp(u, true), true);
        }
        for (int down = 0; down < 6; down++) {
            log = new SharedLog();
            Checks.appendWhole(log, 0, 9);
            Checks.reformWhole(log, 0, 0);
            checks.due("down", log.setUp(down, false), true);
            checks.due("down already", log.setUp(down, false), true);
            checks.due("cells are kept", log.cell(down, 0), down % 2 == 0 ? 9 : -2);
            checks.due("epoch is kept", log.unitEpoch(down), 1);
            log.reform(0, 0);
            for (int u = 0; u < down; u++) {
                checks.due("the lower ones are up", log.step(0), 0);
            }
            checks.due("this one is down", log.step(0), -3);
            checks.due("up again", log.setUp(down, true), true);
            checks.ends(log, 0, 7 - down, 1, 2);
            checks.due("what it held is still there", log.cell(down, 0), down % 2 == 0 ? 9 : -2);
        }
    }

    private static void loseSequencer() {
        checks.part("10 loseSequencer");
        SharedLog log = new SharedLog();
        log.loseSequencer();
        checks.due("tail", log.tail(), 0);
        Checks.appendWhole(log, 0, 1);
        Checks.reformWhole(log, 0, 0);
        Checks.appendWhole(log, 0, 2);
        checks.due("tail", log.tail(), 2);
        log.append(1, 3);
        log.loseSequencer();
        checks.due("tail", log.tail(), 0);
        checks.ends(log, 1, 1, 2, 0);
        checks.due("cells stay", log.cell(0, 0) * 10 + log.cell(5, 1), 12);
        log.append(0, 4);
        checks.ends(log, 0, 8, 1, 2);
        log.append(0, 5);
        log.step(0);
        log.loseSequencer();
        checks.ends(log, 0, 3, 1, 3);
        checks.due("tail", log.tail(), 0);
    }

    private static void busy() {
        checks.part("11 busy");
        SharedLog log = new SharedLog();
        for (int c : NO_CLIENTS) {
            checks.due("no client", log.busy(c), -9);
        }
        log.append(0, 1);
        log.fill(1, 1);
        log.read(2, 0);
        checks.due("kinds", log.busy(0) * 100 + log.busy(1) * 10 + log.busy(2), 123);
        Checks.finish(log, 2);
        checks.due("idle", log.busy(2), 0);
        log.replay(2, 1);
        checks.due("replay", log.busy(2), 4);
        Checks.finish(log, 2);
        log.reform(2, 0);
        checks.due("reform", log.busy(2), 5);
        Checks.finish(log, 2);
        checks.due("idle", log.busy(2), 0);
        checks.due("others go on", log.busy(0) * 10 + log.busy(1), 12);
    }

    private static void outcomeAndNumber() {
        checks.part("12 outcome, 13 number");
        SharedLog log = new SharedLog();
        for (int c : NO_CLIENTS) {
            checks.due("no client's outcome", log.outcome(c), -9);
            checks.due("no client's number", log.number(c), -9);
        }
        Checks.fillWhole(log, 0, 0);
        checks.due("fill", log.outcome(0) * 10 + log.number(0), 9);
        checks.due("others", log.outcome(1) + log.number(1), 0);
        log.read(1, 2);
        Checks.finish(log, 1);
        checks.due("unwritten outcome", log.outcome(1), 3);
        checks.due("unwritten number", log.number(1), -2);
        int[] answers = {log.append(1, 5), log.outcome(1), log.number(1)};
        checks.due("while busy", answers[0] + answers[1] + answers[2], 0);
        Checks.finish(log, 1);
        checks.due("append's outcome", log.outcome(1), 1);
        checks.due("append's number", log.number(1), 1);
        log.append(1, -5);
        log.fill(1, 99);
        checks.due("refused calls leave the outcome", log.outcome(1), 1);
        checks.due("refused calls leave the number", log.number(1), 1);
    }

    private static void projectionOfAClient() {
        checks.part("14 epochOf, 15 membersOf");
        SharedLog log = new SharedLog();
        for (int c : NO_CLIENTS) {
            checks.due("no client's epoch", log.epochOf(c), -9);
            checks.due("no client's members", log.membersOf(c), -9);
        }
        Checks.reformWhole(log, 1, 32);
        Checks.reformWhole(log, 1, 1);
        checks.due("epoch", log.epochOf(1), 2);
        checks.due("members", log.membersOf(1), 30);
        checks.due("old epochs", log.epochOf(0) + log.epochOf(2), 0);
        checks.due("old members", log.membersOf(0) + log.membersOf(2), 126);
        log.refresh(2);
        checks.due("epoch", log.epochOf(2), 2);
        checks.due("members", log.membersOf(2), 30);
    }

    private static void tail() {
        checks.part("16 tail");
        SharedLog log = new SharedLog();
        for (int i = 0; i < 3; i++) {
            log.append(i, 50 + i);
            checks.due("not asked yet", log.tail(), i);
            log.step(i);
            checks.due("handed out", log.tail(), i + 1);
        }
        Checks.finish(log, 2);
        checks.due("positions in order", log.number(2), 2);
        checks.due("stays", log.tail(), 3);
    }

    private static void unitEpoch() {
        checks.part("17 unitEpoch");
        SharedLog log = new SharedLog();
        for (int u : NO_UNITS) {
            checks.due("no unit", log.unitEpoch(u), -9);
        }
        Checks.reformWhole(log, 0, 2);
        Checks.reformWhole(log, 0, 4);
        int[] epochs = {2, 0, 1, 2, 2, 2};
        for (int u = 0; u < 6; u++) {
            checks.due("epoch of " + u, log.unitEpoch(u), epochs[u]);
        }
        log.setUp(5, false);
        checks.due("of a unit that is down", log.unitEpoch(5), 2);
    }

    private static void cell() {
        checks.part("18 cell");
        SharedLog log = new SharedLog();
        for (int u : NO_UNITS) {
            checks.due("no unit", log.cell(u, 0), -9);
            for (int p : NO_POSITIONS) {
                checks.due("no unit, no position", log.cell(u, p), -9);
            }
        }
        for (int u = 0; u < 6; u++) {
            for (int p : NO_POSITIONS) {
                checks.due("no position", log.cell(u, p), -9);
            }
        }
        Checks.appendWhole(log, 0, 60);
        Checks.fillWhole(log, 0, 31);
        log.setUp(0, false);
        for (int u = 0; u < 6; u++) {
            for (int p = 0; p < 32; p++) {
                int want = p == 0 && u % 2 == 0 ? 60 : p == 31 && u % 2 == 1 ? -1 : -2;
                checks.due("cell " + u + " " + p, log.cell(u, p), want);
            }
        }
    }

    private static void refusedCallsChangeNothing() {
        checks.part("refused calls change nothing");
        SharedLog log = new SharedLog();
        Checks.appendWhole(log, 0, 70);
        Checks.appendWhole(log, 1, 71);
        log.fill(1, 2);
        log.step(1);
        log.replay(2, 2);
        log.step(2);
        String before = Checks.stateOf(log);
        int[] numbers = {-1, 33};
        for (int n : numbers) {
            log.append(0, n < 0 ? n : Integer.MAX_VALUE);
            log.fill(0, n);
            log.read(0, n);
            log.replay(0, n);
            log.reform(0, n < 0 ? n : 64);
            log.reform(0, 21);
            log.append(n, 1);
            log.fill(n, 1);
            log.read(n, 1);
            log.replay(n, 1);
            log.reform(n, 1);
            log.step(n);
            log.refresh(n);
            log.setUp(n, false);
        }
        for (int c = 1; c < 3; c++) {
            log.append(c, 1);
            log.fill(c, 9);
            log.read(c, 9);
            log.replay(c, 0);
            log.reform(c, 3);
            log.refresh(c);
        }
        checks.due("step of an idle one", log.step(0), -2);
        checks.due("state", Checks.stateOf(log), before);
        checks.ends(log, 1, 2, 1, -1);
        checks.ends(log, 2, 2, 1, 70 * 31 + 71);
    }

    private static void objectsAreApart() {
        checks.part("objects are apart");
        SharedLog one = new SharedLog();
        SharedLog other = new SharedLog();
        String fresh = Checks.stateOf(other);
        Checks.appendWhole(one, 0, 1);
        Checks.reformWhole(one, 0, 1);
        one.setUp(4, false);
        one.append(1, 1);
        checks.due("the other one", Checks.stateOf(other), fresh);
        checks.due("a new one", Checks.stateOf(new SharedLog()), fresh);
        other.read(0, 0);
        checks.ends(other, 0, 1, 3, -2);
    }
}
