import java.util.Random;

/**
 * What the document says of every schedule, tried on many mixed ones: a position shows one content
 * for ever, an acknowledged append is found again, only a fill puts junk anywhere, what is written
 * never changes.
 */
public final class SharedLogScheduleTest {
    private static final int RUNS = 3000;
    private static final int CALLS = 400;
    private static final int UNKNOWN = -2;

    private static final Checks checks = new Checks();

    private final SharedLog log = new SharedLog();
    private final Random random;
    private final int[] shown = new int[32];
    private final int[] acknowledged = new int[32];
    private final boolean[] filled = new boolean[32];
    private final int[][] cells = new int[6][32];
    private final int[] argument = new int[3];
    private int newestEpoch = 0;
    private int nextValue = 0;

    private SharedLogScheduleTest(int run) {
        random = new Random(run);
        for (int p = 0; p < 32; p++) {
            shown[p] = UNKNOWN;
            acknowledged[p] = UNKNOWN;
            for (int u = 0; u < 6; u++) {
                cells[u][p] = UNKNOWN;
            }
        }
    }

    public static void main(String[] args) {
        int ended = 0;
        for (int run = 0; run < RUNS; run++) {
            checks.part("run " + run);
            ended += new SharedLogScheduleTest(run).play();
        }
        checks.due("most schedules get something done", ended > RUNS * 20, true);
        checks.exitWithResult();
    }

    private int play() {
        int ended = 0;
        for (int call = 0; call < CALLS; call++) {
            int client = random.nextInt(3);
            int kind = log.busy(client);
            if (random.nextInt(12) == 0) {
                disturb();
            } else if (kind == 0) {
                begin(client);
            } else if (log.step(client) == 1) {
                ended++;
                lookAtEnd(client, kind);
            }
            lookAtCells();
        }
        return ended;
    }

    private void disturb() {
        if (random.nextInt(6) == 0) {
            log.loseSequencer();
        } else {
            log.setUp(random.nextInt(6), random.nextInt(3) > 0);
        }
    }

    private void begin(int client) {
        int choice = random.nextInt(16);
        if (choice < 6) {
            // Every append has a value of its own, so that a mixed up one is seen.
            argument[client] = nextValue++;
            log.append(client, argument[client]);
        } else if (choice < 8) {
            argument[client] = random.nextInt(Math.min(32, log.tail() + 2));
            filled[argument[client]] = true;
            log.fill(client, argument[client]);
        } else if (choice < 12) {
            argument[client] = random.nextInt(Math.min(32, log.tail() + 2));
            log.read(client, argument[client]);
        } else if (choice < 13) {
            log.replay(client, random.nextInt(33));
        } else if (choice < 14) {
            log.reform(client, 1 << random.nextInt(random.nextBoolean() ? 6 : 3));
        } else {
            log.refresh(client);
        }
    }

    private void lookAtEnd(int client, int kind) {
        int outcome = log.outcome(client);
        int number = log.number(client);
        if (kind == 5 && outcome == 1) {
            checks.due("new epoch", number, newestEpoch + 1);
            newestEpoch = number;
        }
        if (kind == 1 && outcome == 1) {
            checks.due("position acknowledged twice", acknowledged[number], UNKNOWN);
            acknowledged[number] = argument[client];
            lookAtShown(number, argument[client]);
        }
        if ((kind == 2 || kind == 3) && outcome == 1) {
            lookAtShown(argument[client], number);
        }
        if (kind == 3 && outcome == 3 && log.epochOf(client) == newestEpoch) {
            checks.due("acknowledged but not found", acknowledged[argument[client]], UNKNOWN);
        }
    }

    private void lookAtShown(int position, int content) {
        if (shown[position] != UNKNOWN) {
            checks.due("content of " + position, content, shown[position]);
        }
        shown[position] = content;
    }

    private void lookAtCells() {
        for (int u = 0; u < 6; u++) {
            for (int p = 0; p < 32; p++) {
                int now = log.cell(u, p);
                if (cells[u][p] != UNKNOWN) {
                    checks.due("written cell " + u + " " + p, now, cells[u][p]);
                }
                checks.due("junk without a fill at " + p, now == -1 && !filled[p], false);
                checks.due("other stripe written", now != UNKNOWN && u % 2 != p % 2, false);
                cells[u][p] = now;
            }
        }
    }
}
