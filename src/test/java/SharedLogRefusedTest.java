import java.util.ArrayList;
import java.util.List;

/**
 * "A call that is refused changes nothing": each refused call in each situation, with all questions
 * asked before and after it; and a second log that did not get the call goes on in the same way.
 */
public final class SharedLogRefusedTest {
    private static final int GREATEST = 1073741823;
    private static final int LEAST_INT = Integer.MIN_VALUE;
    private static final int GREATEST_INT = Integer.MAX_VALUE;
    private static final int SITUATIONS = 8;

    private static final Checks checks = new Checks();

    private interface Call {
        int on(SharedLog log);
    }

    private record Refused(String name, int answer, Call call) {
    }

    public static void main(String[] args) {
        for (int situation = 0; situation < SITUATIONS; situation++) {
            List<Refused> calls = new ArrayList<>();
            ofNoClient(calls);
            ofTheBusyClient(calls);
            ofTheIdleClient(calls);
            ofNoUnit(calls);
            if (unitAsked(situation) >= 0) {
                calls.add(new Refused("step(1), its unit is down", -3, log -> log.step(1)));
            }
            for (Refused refused : calls) {
                checks.part("situation " + situation + " " + refused.name());
                asksAllBeforeAndAfter(situation, refused);
                goesOnAsIfNotCalled(situation, refused);
            }
        }
        checks.exitWithResult();
    }

    private static void ofNoClient(List<Refused> calls) {
        int[] clients = {-1, 3, LEAST_INT, GREATEST_INT};
        for (int c : clients) {
            beginnings(calls, c, -1, 0);
            beginnings(calls, c, -1, -1);
            beginnings(calls, c, -1, GREATEST_INT);
            calls.add(new Refused("step(" + c + ")", -1, log -> log.step(c)));
            calls.add(new Refused("refresh(" + c + ")", -1, log -> log.refresh(c)));
        }
    }

    private static void ofTheBusyClient(List<Refused> calls) {
        int[] arguments = {0, 1, 3, 21, 31, 32, 33, 63, 64, -1, GREATEST, GREATEST + 1, LEAST_INT, GREATEST_INT};
        for (int argument : arguments) {
            beginnings(calls, 1, -2, argument);
        }
        calls.add(new Refused("refresh(1), it is busy", -2, log -> log.refresh(1)));
    }

    private static void beginnings(List<Refused> calls, int c, int answer, int argument) {
        String arguments = "(" + c + ", " + argument + ")";
        calls.add(new Refused("append" + arguments, answer, log -> log.append(c, argument)));
        calls.add(new Refused("fill" + arguments, answer, log -> log.fill(c, argument)));
        calls.add(new Refused("read" + arguments, answer, log -> log.read(c, argument)));
        calls.add(new Refused("replay" + arguments, answer, log -> log.replay(c, argument)));
        calls.add(new Refused("reform" + arguments, answer, log -> log.reform(c, argument)));
    }

    private static void ofTheIdleClient(List<Refused> calls) {
        int[] values = {-1, -2, GREATEST + 1, LEAST_INT, GREATEST_INT};
        for (int v : values) {
            calls.add(new Refused("append(0, " + v + ")", -3, log -> log.append(0, v)));
        }
        int[] positions = {-1, 32, LEAST_INT, GREATEST_INT};
        for (int p : positions) {
            calls.add(new Refused("fill(0, " + p + ")", -3, log -> log.fill(0, p)));
            calls.add(new Refused("read(0, " + p + ")", -3, log -> log.read(0, p)));
        }
        int[] uptos = {-1, 33, LEAST_INT, GREATEST_INT};
        for (int upto : uptos) {
            calls.add(new Refused("replay(0, " + upto + ")", -3, log -> log.replay(0, upto)));
        }
        int[] masks = {-1, 64, 127, LEAST_INT, GREATEST_INT};
        for (int mask : masks) {
            calls.add(new Refused("reform(0, " + mask + ")", -3, log -> log.reform(0, mask)));
        }
        // Client 0 has left out unit 2, so that two even units are all that it has.
        int[] noSurvivor = {1 + 16, 21, 42, 63};
        for (int mask : noSurvivor) {
            calls.add(new Refused("reform(0, " + mask + ")", -4, log -> log.reform(0, mask)));
        }
        calls.add(new Refused("step(0), it is idle", -2, log -> log.step(0)));
    }

    private static void ofNoUnit(List<Refused> calls) {
        int[] units = {-1, 6, LEAST_INT, GREATEST_INT};
        for (int u : units) {
            calls.add(new Refused("setUp(" + u + ", false)", 0, log -> log.setUp(u, false) ? 1 : 0));
            calls.add(new Refused("setUp(" + u + ", true)", 0, log -> log.setUp(u, true) ? 1 : 0));
        }
    }

    /**
     * Client 0 is idle with an outcome and a number, and its projection is newer than the first one;
     * client 1 is busy, half way; client 2 is busy with a replay under the first projection.
     */
    private static SharedLog logIn(int situation) {
        SharedLog log = new SharedLog();
        Checks.appendWhole(log, 0, 40);
        Checks.appendWhole(log, 0, 41);
        log.replay(2, 2);
        log.step(2);
        Checks.reformWhole(log, 0, 4);
        log.refresh(1);
        log.read(0, 3);
        log.step(0);
        beginOfClientOne(log, situation);
        log.setUp(3, false);
        if (unitAsked(situation) >= 0) {
            log.setUp(unitAsked(situation), false);
        }
        return log;
    }

    private static void beginOfClientOne(SharedLog log, int situation) {
        switch (situation) {
            case 0:
                log.append(1, 50);
                break;
            case 1:
                log.append(1, 51);
                Checks.steps(log, 1, 2);
                break;
            case 2:
                log.fill(1, 2);
                log.step(1);
                break;
            case 3:
                log.read(1, 1);
                break;
            case 4:
                log.replay(1, 3);
                log.step(1);
                break;
            case 5:
                log.reform(1, 1);
                log.step(1);
                break;
            case 6:
                log.reform(1, 8);
                Checks.steps(log, 1, 4);
                break;
            default:
                log.replay(1, 0);
                break;
        }
    }

    /** The unit before which client 1 stands, -1 if its next step asks none. */
    private static int unitAsked(int situation) {
        int[] units = {-1, 4, 4, 5, 5, 3, -1, -1};
        return units[situation];
    }

    private static void asksAllBeforeAndAfter(int situation, Refused refused) {
        SharedLog log = logIn(situation);
        String before = Checks.stateOf(log);
        checks.due("the call", refused.call().on(log), refused.answer());
        checks.due("all questions", Checks.stateOf(log), before);
    }

    private static void goesOnAsIfNotCalled(int situation, Refused refused) {
        SharedLog called = logIn(situation);
        SharedLog uncalled = logIn(situation);
        checks.due("the call", refused.call().on(called), refused.answer());
        checks.due("what follows", whatFollows(called), whatFollows(uncalled));
    }

    private static String whatFollows(SharedLog log) {
        StringBuilder text = new StringBuilder();
        stepAll(log, text, 2);
        for (int u = 0; u <= 5; u++) {
            // A unit that is down shows itself only to a client that asks it.
            text.append(" up ").append(log.setUp(u, true));
            stepAll(log, text, 1);
        }
        stepAll(log, text, 6);
        for (int c = 0; c <= 2; c++) {
            text.append(" end ").append(log.outcome(c)).append(' ').append(log.number(c));
            text.append(" refresh ").append(log.refresh(c));
            text.append(" append ").append(log.append(c, 60 + c));
        }
        stepAll(log, text, 5);
        text.append(" reform ").append(log.reform(0, 32));
        stepAll(log, text, 6);
        return text.append(Checks.stateOf(log)).toString();
    }

    private static void stepAll(SharedLog log, StringBuilder text, int times) {
        for (int i = 0; i < times; i++) {
            for (int c = 0; c <= 2; c++) {
                text.append(' ').append(log.step(c));
            }
        }
    }
}
