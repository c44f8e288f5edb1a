import java.util.ArrayList;
import java.util.List;
import java.util.function.Consumer;

/** Ways to go on after a run of calls, which together bring to light what the run has left in an object. */
final class Aftermath {
    private static final int[] VALUES = {Integer.MIN_VALUE, -1, 0, 1, 3, 5, 7, Integer.MAX_VALUE};
    private static final int[] TICKS = {0, 1, 1, 1, 2, 4, 1, 40, 49, 1, 1};
    private static final int FAR = 1000;

    private Aftermath() { }

    /** The ways, for tasks with these inputs (0: not defined). */
    static List<Consumer<Trace>> ways(int[] ins) {
        List<Consumer<Trace>> ways = new ArrayList<>();
        ways.add(Aftermath::look);
        ways.add(Aftermath::cancelAndLook);
        ways.add(Aftermath::workOn);
        ways.add(Aftermath::letTimePass);
        for (int t = 0; t < ins.length; t++) {
            if (ins[t] != 0) {
                addWaysOfTask(ways, t, ins[t]);
            }
        }
        return ways;
    }

    private static void addWaysOfTask(List<Consumer<Trace>> ways, int t, int ins) {
        ways.add(trace -> lookAtMoves(trace, t));
        ways.add(trace -> letTimePassFor(trace, t, ins));
        for (int value : VALUES) {
            for (int variable = 0; variable < 4; variable++) {
                int guarded = variable;
                ways.add(trace -> runTask(trace, t, ins, guarded, value));
            }
        }
    }

    private static void look(Trace trace) {
        trace.call("marking");
        trace.call("enabled");
        trace.call("verdict");
        trace.call("tick", 0);
        lookAtVariables(trace);
        lookAtItems(trace, 1, 3);
        for (int t = 0; t < 6; t++) {
            trace.call("covers", 255, 1 << 8 + t, -1);
            for (int c = 0; c < 8; c++) {
                trace.call("covers", 1 << 8 + t, 1 << c, -1);
            }
        }
    }

    private static void cancelAndLook(Trace trace) {
        trace.call("cancel");
        trace.call("launch");
        trace.call("enabled");
        trace.call("marking");
        lookAtItems(trace, 1, 2);
        for (int t = -1; t <= 6; t++) {
            trace.call("fire", t);
            trace.call("marking");
        }
    }

    private static void lookAtVariables(Trace trace) {
        for (int variable = 0; variable < 4; variable++) {
            trace.call("variable", variable);
        }
    }

    private static void lookAtItems(Trace trace, int first, int whats) {
        for (int id = first; trace.call("item", id, 0) >= 0; id++) {
            for (int what = 1; what < whats; what++) {
                trace.call("item", id, what);
            }
        }
    }

    private static void workOn(Trace trace) {
        int made = 0;
        while (trace.call("item", made + 1, 1) >= 0) {
            made++;
        }
        for (int id = Math.max(1, made - 12); id <= made; id++) {
            trace.call("start", id);
            trace.call("finish", id, id);
            trace.call("marking");
        }
        for (int round = 0; round < 4; round++) {
            for (int t = 0; t < 6; t++) {
                if (trace.call("fire", t) > 0) {
                    finishAllFrom(trace, made + 1, round);
                    while (trace.call("item", made + 1, 1) >= 0) {
                        made++;
                    }
                }
            }
            trace.call("marking");
            trace.call("enabled");
        }
        lookAtVariables(trace);
    }

    private static void finishAllFrom(Trace trace, int first, int value) {
        for (int id = first; id < first + 4 && trace.call("start", id) >= 0; id++) {
            trace.call("finish", id, value);
        }
    }

    private static void letTimePass(Trace trace) {
        for (int n : TICKS) {
            trace.call("tick", n);
            trace.call("marking");
            for (int id = 1; id <= 12; id++) {
                trace.call("item", id, 1);
            }
        }
    }

    /** Marks all inputs of a task in a new case, by another task; answers the first id of the task then. */
    private static int beginTask(Trace trace, int t, int ins) {
        int helper = (t + 1) % 6;
        trace.call("cancel");
        trace.call("task", helper, 0, 0, 1, ins);
        trace.call("launch");
        int id = (int) trace.call("fire", helper);
        trace.call("start", id);
        trace.call("finish", id, 0);
        return (int) trace.call("fire", t);
    }

    private static void runTask(Trace trace, int t, int ins, int guarded, int value) {
        int first = beginTask(trace, t, ins);
        for (int variable = 0; variable < 4; variable++) {
            trace.call("set", variable, variable == guarded ? value : FAR);
        }
        finishAllFrom(trace, first, value);
        trace.call("marking");
        lookAtVariables(trace);
        lookAtItems(trace, Math.max(1, first), 2);
    }

    private static void letTimePassFor(Trace trace, int t, int ins) {
        int first = beginTask(trace, t, ins);
        for (int n : TICKS) {
            trace.call("tick", n);
            trace.call("item", first, 1);
        }
        trace.call("marking");
    }

    /** With the other tasks made such that they change nothing, a region is seen by what can't be kept. */
    private static void lookAtMoves(Trace trace, int t) {
        trace.call("cancel");
        for (int other = 0; other < 6; other++) {
            if (other != t) {
                trace.call("task", other, 0, 0, 1, 1);
            }
        }
        trace.call("verdict");
        int runs = 1 << 8 + t;
        for (int place = 0; place < 14; place++) {
            int kept = 1 << place;
            trace.call("covers", kept, runs, -1);
            trace.call("covers", runs, kept, -1);
            for (int output = 1; output < 8; output++) {
                trace.call("covers", runs | kept, kept | 1 << output, -1);
            }
        }
    }
}
