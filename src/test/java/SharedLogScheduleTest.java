import java.util.Random;

/**
 * What the document says of every schedule, tried on many mixed ones: a position shows one content
 * for ever, an acknowledged append is found again, only a fill puts junk anywhere, what is written
 * never changes.
 */
public final class SharedLogScheduleTest {
    private static final int RUNS = 20000;
    // An object is promised for 512 calls; the look at all cells at the end takes 192 of them.
    private static final int CALLS_BEFORE_LAST_LOOK = 310;
    private static final int UNKNOWN = -2;

    private static final Checks checks = new Checks();

    private final SharedLog log = new SharedLog();
    private final Random random;
    private final int[] shown = new int[32];
    private final int[] acknowledged = new int[32];
    private final boolean[] filled = new boolean[32];
    private final int[][] cells = new int[6][32];
    private final int[] kinds = new int[3];
    private final int[] argument = new int[3];
    private int calls = 0;
    private int newestEpoch = 0;
    private int nextValue = 0;

    private SharedLogScheduleTest(int run) {
        random = new Random(run);
        for (int p = 0; p < 32; p++) {
            shown[p] = UNKNOWN;
            acknowledged[p] = UNKNOWN;
            for (int u = 0; u < 6; u++) {
                cells[u][p] = UNKNOWN;
            }
        }
    }

    public static void main(String[] args) {
        int ended = 0;
        for (int run = 0; run < RUNS; run++) {
            checks.part("run " + run);
            ended += new SharedLogScheduleTest(run).play();
        }
        checks.due("most schedules get something done", ended > RUNS * 20, true);
        checks.exitWithResult();
    }

    private int play() {
        int ended = 0;
        while (calls < CALLS_BEFORE_LAST_LOOK) {
            int client = random.nextInt(3);
            calls++;
            if (random.nextInt(12) == 0) {
                disturb();
            } else if (kinds[client] == 0) {
                begin(client);
            } else if (log.step(client) == 1) {
                ended++;
                lookAtEnd(client, kinds[client]);
                kinds[client] = 0;
            }
            if (random.nextInt(4) == 0) {
                calls++;
                lookAtCell(random.nextInt(6), random.nextInt(8));
            }
        }
        for (int u = 0; u < 6; u++) {
            for (int p = 0; p < 32; p++) {
                lookAtCell(u, p);
            }
        }
        return ended;
    }

    private void disturb() {
        if (random.nextInt(6) == 0) {
            log.loseSequencer();
        } else {
            log.setUp(random.nextInt(6), random.nextInt(3) > 0);
        }
    }

    private void begin(int client) {
        int choice = random.nextInt(16);
        if (choice < 6) {
            // Every append has a value of its own, so that a mixed up one is seen.
            argument[client] = nextValue++;
            kinds[client] = 1;
            checks.due("append", log.append(client, argument[client]), 0);
        } else if (choice < 8) {
            argument[client] = random.nextInt(12);
            filled[argument[client]] = true;
            kinds[client] = 2;
            checks.due("fill", log.fill(client, argument[client]), 0);
        } else if (choice < 12) {
            argument[client] = random.nextInt(12);
            kinds[client] = 3;
            checks.due("read", log.read(client, argument[client]), 0);
        } else if (choice < 13) {
            kinds[client] = 4;
            checks.due("replay", log.replay(client, random.nextInt(33)), 0);
        } else if (choice < 14) {
            int without = 1 << random.nextInt(random.nextBoolean() ? 6 : 3);
            kinds[client] = log.reform(client, without) == 0 ? 5 : 0;
        } else {
            checks.due("refresh", log.refresh(client), newestEpoch);
        }
    }

    private void lookAtEnd(int client, int kind) {
        int outcome = log.outcome(client);
        int number = log.number(client);
        calls += 2;
        if (kind == 5 && outcome == 1) {
            checks.due("new epoch", number, newestEpoch + 1);
            newestEpoch = number;
        }
        if (kind == 1 && outcome == 1) {
            checks.due("position acknowledged twice", acknowledged[number], UNKNOWN);
            acknowledged[number] = argument[client];
            lookAtShown(number, argument[client]);
        }
        if ((kind == 2 || kind == 3) && outcome == 1) {
            lookAtShown(argument[client], number);
        }
        // An old client may still ask a unit that was left out; only a fresh one has to find it.
        if (kind == 3 && outcome == 3) {
            calls++;
            boolean fresh = log.epochOf(client) == newestEpoch;
            boolean lost = fresh && acknowledged[argument[client]] != UNKNOWN;
            checks.due("acknowledged but not found", lost, false);
        }
    }

    private void lookAtShown(int position, int content) {
        if (shown[position] != UNKNOWN) {
            checks.due("content of " + position, content, shown[position]);
        }
        shown[position] = content;
    }

    private void lookAtCell(int unit, int position) {
        int now = log.cell(unit, position);
        int before = cells[unit][position];
        checks.due("written cell has changed", before != UNKNOWN && before != now, false);
        checks.due("junk without a fill", now == -1 && !filled[position], false);
        checks.due("other stripe written", now != UNKNOWN && unit % 2 != position % 2, false);
        cells[unit][position] = now;
    }
}
