/** The two examples of README.md, line by line: each call answers what is written beside it. */
public final class SharedLogReadmeTest {
    private static final Checks checks = new Checks();

    public static void main(String[] args) {
        SharedLog log = new SharedLog();
        anAppend(log);
        aUnitFallsOut(log);
        checks.exitWithResult();
    }

    private static void anAppend(SharedLog log) {
        checks.part("README: an append");
        checks.due("append(0, 5)", log.append(0, 5), 0);
        checks.due("steps that go on", stepsThatGoOn(log, 0), 3);
        checks.due("outcome(0)", log.outcome(0), 1);
        checks.due("number(0)", log.number(0), 0);
        for (int u = 0; u <= 4; u += 2) {
            checks.due("cell(" + u + ", 0)", log.cell(u, 0), 5);
        }
    }

    private static void aUnitFallsOut(SharedLog log) {
        checks.part("README: a unit falls out");
        checks.due("setUp(4, false)", log.setUp(4, false), true);
        checks.due("read(0, 0)", log.read(0, 0), 0);
        checks.due("step(0)", log.step(0), -3);
        checks.due("reform(2, 1 << 4)", log.reform(2, 1 << 4), 0);
        checks.due("steps that go on", stepsThatGoOn(log, 2), 5);
        checks.due("number(2)", log.number(2), 1);
        checks.due("append(1, 7)", log.append(1, 7), 0);
        checks.due("step(1)", log.step(1), 1);
        checks.due("outcome(1)", log.outcome(1), 2);
        checks.due("refresh(1)", log.refresh(1), 1);
        checks.due("setUp(4, true)", log.setUp(4, true), true);
        checks.due("step(0)", log.step(0), 1);
        checks.due("number(0)", log.number(0), 5);
    }

    private static int stepsThatGoOn(SharedLog log, int client) {
        int count = 0;
        while (count < 100 && log.step(client) == 0) {
            count++;
        }
        return count;
    }
}
