import java.util.ArrayList;
import java.util.List;
import java.util.function.Consumer;

/**
 * Sentences of the document, each with a run of calls on a new object. Whenever some calls were refused,
 * the run so far is made again without those: whatever comes after it must be answered the same.
 */
abstract class Sentences {
    static final int LEAST = Integer.MIN_VALUE;
    static final int GREATEST = Integer.MAX_VALUE;
    static final int ALL = 0;
    static final int ONE = 1;
    static final int SOME = 2;
    static final int BAD = -1;
    static final int NOT_SO = -2;
    static final int FULL = -3;

    private record Step(Call call, boolean refused) { }

    private final Checks checks = new Checks();
    private final List<Step> steps = new ArrayList<>();
    private boolean justRefused;
    private int[] ins = new int[6];
    private Trace net = new Trace();

    /** Begins a sentence, on a new object. */
    final void sentence(String text) {
        lookBackAtRefusals();
        steps.clear();
        ins = new int[6];
        net = new Trace();
        checks.about(text);
    }

    final void endProgram() {
        lookBackAtRefusals();
        checks.endProgram();
    }

    private void lookBackAtRefusals() {
        if (justRefused) {
            refusedCallsChangedNothing();
        }
        justRefused = false;
    }

    private void refusedCallsChangedNothing() {
        for (Consumer<Trace> way : Aftermath.ways(ins)) {
            Trace all = new Trace();
            Trace spared = new Trace();
            for (Step step : steps) {
                all.call(step.call());
                if (!step.refused()) {
                    spared.call(step.call());
                }
            }
            all.forgetAnswers();
            spared.forgetAnswers();
            way.accept(all);
            way.accept(spared);
            String difference = all.firstDifference(spared);
            checks.due("a refused call changed something: " + difference, true, difference.isEmpty());
        }
    }

    private long make(boolean refused, Call call) {
        if (!refused) {
            lookBackAtRefusals();
        }
        justRefused = refused;
        steps.add(new Step(call, refused));
        if (!refused && call.name().equals("task")) {
            ins[call.args()[0]] = call.args()[3];
        }
        return net.call(call);
    }

    /** A call that is answered so, and not refused. */
    final void is(long want, String name, int... args) {
        Call call = new Call(name, args);
        checks.due(call.toString(), want, make(false, call));
    }

    final void yes(String name, int... args) {
        is(1, name, args);
    }

    /** A call that is refused with this answer. */
    final void refused(long want, String name, int... args) {
        Call call = new Call(name, args);
        checks.due(call.toString(), want, make(true, call));
    }

    final void no(String name, int... args) {
        refused(0, name, args);
    }

    final void bad(String name, int... args) {
        refused(BAD, name, args);
    }

    final void notSo(String name, int... args) {
        refused(NOT_SO, name, args);
    }

    static int mask(int... bits) {
        int mask = 0;
        for (int bit : bits) {
            mask |= 1 << bit;
        }
        return mask;
    }

    final void marked(int... places) {
        is(mask(places), "marking");
    }

    final void enabled(int... tasks) {
        is(mask(tasks), "enabled");
    }

    final void states(int first, int... states) {
        for (int i = 0; i < states.length; i++) {
            is(states[i], "item", first + i, 1);
        }
    }

    /** Starts an item and finishes it. */
    final void finished(long want, int item, int value) {
        is(0, "start", item);
        is(want, "finish", item, value);
    }

    /** Fires a task, whose first item gets this id, and finishes that item, by which the task ends. */
    final void ended(int t, int id, int value) {
        is(id, "fire", t);
        finished(1, id, value);
    }
}
