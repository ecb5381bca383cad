/** Counts and prints the answers that are not due, and drives logs for the tests. */
final class Checks {
    private int wrong = 0;
    private String part = "";

    void part(String name) {
        part = name;
    }

    void due(String what, long got, long want) {
        if (got != want) {
            wrong++;
            System.out.println(part + ": " + what + " answered " + got + ", due is " + want);
        }
    }

    void due(String what, boolean got, boolean want) {
        due(what, got ? 1 : 0, want ? 1 : 0);
    }

    void due(String what, String got, String want) {
        if (!got.equals(want)) {
            wrong++;
            System.out.println(part + ": " + what + " is " + got + ", due is " + want);
        }
    }

    /** The client has to end in exactly this many steps, with this outcome and number. */
    void ends(SharedLog log, int client, int steps, int outcome, int number) {
        for (int i = 1; i < steps; i++) {
            due("step " + i + " of " + steps, log.step(client), 0);
            due("outcome after step " + i, log.outcome(client), 0);
            due("number after step " + i, log.number(client), 0);
        }
        due("last step of " + steps, log.step(client), 1);
        due("busy at the end", log.busy(client), 0);
        due("outcome at the end", log.outcome(client), outcome);
        due("number at the end", log.number(client), number);
        due("step behind the end", log.step(client), -2);
    }

    void exitWithResult() {
        System.out.println(wrong == 0 ? "all answers are as due" : wrong + " answers are not as due");
        if (wrong != 0) {
            System.exit(1);
        }
    }

    /** Everything that can be asked of a log, as one text. */
    static String stateOf(SharedLog log) {
        StringBuilder text = new StringBuilder();
        text.append("tail ").append(log.tail());
        for (int c = 0; c < 3; c++) {
            text.append("; client ").append(c)
                .append(' ').append(log.busy(c)).append(' ').append(log.outcome(c))
                .append(' ').append(log.number(c)).append(' ').append(log.epochOf(c))
                .append(' ').append(log.membersOf(c));
        }
        for (int u = 0; u < 6; u++) {
            text.append("; unit ").append(u).append(' ').append(log.unitEpoch(u)).append(':');
            for (int p = 0; p < 32; p++) {
                text.append(' ').append(log.cell(u, p));
            }
        }
        return text.toString();
    }

    static void finish(SharedLog log, int client) {
        for (int i = 0; i < 500 && log.step(client) == 0; i++) {
            continue;
        }
    }

    static void appendWhole(SharedLog log, int client, int value) {
        log.append(client, value);
        finish(log, client);
    }

    static void fillWhole(SharedLog log, int client, int position) {
        log.fill(client, position);
        finish(log, client);
    }

    static void reformWhole(SharedLog log, int client, int without) {
        log.reform(client, without);
        finish(log, client);
    }

    static void steps(SharedLog log, int client, int count) {
        for (int i = 0; i < count; i++) {
            log.step(client);
        }
    }
}
