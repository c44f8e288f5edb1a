import java.util.Random;

/** Long runs of calls, made up with fixed seeds, must be answered as PlainNet answers them. */
public final class RandomRunsTest {
    private static final int RUNS = 2000;
    private static final int DESIGNS = 4;

    private final Checks checks;
    private final Random random;
    private final CaseNet net = new CaseNet();
    private final PlainNet plain = new PlainNet();
    private int made;

    private RandomRunsTest(Checks checks, int seed) {
        this.checks = checks;
        random = new Random(seed);
        checks.about("random run " + seed);
    }

    public static void main(String[] args) {
        Checks checks = new Checks();
        for (int seed = 0; seed < RUNS; seed++) {
            new RandomRunsTest(checks, seed).run();
        }
        checks.endProgram();
    }

    private void run() {
        for (int design = 0; design < DESIGNS; design++) {
            designCalls(between(6, 20));
            for (int round = between(1, 3); round > 0; round--) {
                due("launch", net.launch(), plain.launch());
                workUntilNothingGoesOn(between(10, 80));
                due("cancel", net.cancel(), plain.cancel());
                lookAtItems();
            }
        }
    }

    private int between(int low, int high) {
        return low + random.nextInt(high - low + 1);
    }

    private boolean rarely() {
        return random.nextInt(25) == 0;
    }

    private int taskNumber() {
        return rarely() ? between(-2, 8) : between(0, 5);
    }

    private int conditions() {
        if (rarely()) {
            return random.nextInt(512);
        }
        int mask = 0;
        for (int i = between(1, 3); i > 0; i--) {
            mask |= 1 << between(0, 7);
        }
        return mask;
    }

    private int places() {
        if (rarely()) {
            return random.nextBoolean() ? 1 << between(14, 31) : 0;
        }
        int mask = 0;
        for (int i = between(1, 4); i > 0; i--) {
            mask |= 1 << between(0, 13);
        }
        return mask;
    }

    private int value() {
        return rarely() ? random.nextInt() : between(-3, 3);
    }

    private void designCalls(int calls) {
        for (int i = 0; i < calls; i++) {
            designCall();
            due("verdict", net.verdict(), plain.verdict());
        }
        for (int i = 0; i < 5; i++) {
            int from = places();
            int target = random.nextBoolean() ? conditions() : places();
            int without = rarely() ? between(-3, 8) : between(-1, 5);
            due("covers(" + from + ", " + target + ", " + without + ")",
                    net.covers(from, target, without), plain.covers(from, target, without));
        }
    }

    private void designCall() {
        int t = taskNumber();
        switch (random.nextInt(10)) {
            case 0 -> {
                int places = places();
                due("region", net.region(t, places), plain.region(t, places));
            }
            case 1, 2 -> {
                int c = between(-1, 8);
                int v = rarely() ? between(-2, 6) : between(0, 3);
                int low = rarely() ? value() : between(-2, 2);
                int high = rarely() ? value() : between(-2, 2);
                due("guard", net.guard(t, c, v, low, high), plain.guard(t, c, v, low, high));
            }
            case 3, 4, 5 -> {
                int number = rarely() ? between(0, 5) : between(1, 4);
                int threshold = rarely() ? between(0, 5) : between(1, Math.max(1, number));
                int v = rarely() ? between(-2, 6) : between(0, 3);
                int deadline = rarely() ? between(-2, 103) : between(0, 9);
                due("items", net.items(t, number, threshold, v, deadline),
                        plain.items(t, number, threshold, v, deadline));
            }
            default -> {
                int join = rarely() ? between(-1, 3) : between(0, between(1, 2));
                int split = rarely() ? between(-1, 3) : between(0, 2);
                int ins = random.nextInt(4) == 0 ? 1 : conditions();
                int outs = conditions();
                due("task", net.task(t, join, split, ins, outs), plain.task(t, join, split, ins, outs));
            }
        }
    }

    private void workUntilNothingGoesOn(int calls) {
        for (int i = 0; i < calls; i++) {
            workCall();
            due("marking", net.marking(), plain.marking());
            if (plain.marking() >> 8 == 0 && plain.enabled() == 0 && random.nextInt(4) == 0) {
                return;
            }
        }
    }

    private void lookAtItems() {
        for (int id = 0; id <= made + 1; id++) {
            for (int what = -1; what <= 3; what++) {
                due("item(" + id + ", " + what + ")", net.item(id, what), plain.item(id, what));
            }
        }
    }

    private int itemNumber() {
        if (rarely()) {
            return between(-1, 62);
        }
        int open = 0;
        for (int id = 1; id <= made; id++) {
            boolean isOpen = plain.item(id, 1) <= 2;
            open = isOpen && (open == 0 || random.nextInt(3) == 0) ? id : open;
        }
        return open;
    }

    private void workCall() {
        int id = itemNumber();
        int value = value();
        int v = between(-1, 4);
        switch (random.nextInt(14)) {
            case 12, 13, 0, 1 -> fireOneOf(plain.enabled());
            case 2, 3, 4 -> due("start(" + id + ")", net.start(id), plain.start(id));
            case 5, 6, 7 -> due("finish(" + id + ", " + value + ")", net.finish(id, value), plain.finish(id, value));
            case 8 -> due("fail(" + id + ")", net.fail(id), plain.fail(id));
            case 9 -> {
                int n = rarely() ? between(-200, 200) : between(0, 3);
                due("tick(" + n + ")", net.tick(n), plain.tick(n));
            }
            case 10 -> due("set(" + v + ", " + value + ")", net.set(v, value), plain.set(v, value));
            default -> workCallThatShouldBeRefused(value);
        }
        due("variable(" + v + ")", net.variable(v), plain.variable(v));
    }

    private void fireOneOf(int enabled) {
        due("enabled", net.enabled(), enabled);
        int t = taskNumber();
        for (int tries = 0; tries < 20 && (enabled >> t & 1) == 0; tries++) {
            t = taskNumber();
        }
        int first = plain.fire(t);
        due("fire(" + t + ")", net.fire(t), first);
        while (plain.item(made + 1, 0) >= 0) {
            made++;
        }
    }

    private void workCallThatShouldBeRefused(int value) {
        int t = taskNumber();
        due("task", net.task(t, 0, 0, 1, 2), plain.task(t, 0, 0, 1, 2));
        due("region", net.region(t, 1), plain.region(t, 1));
        due("guard", net.guard(t, 1, 0, value, value), plain.guard(t, 1, 0, value, value));
        due("items", net.items(t, 4, 1, 0, 1), plain.items(t, 4, 1, 0, 1));
        due("launch", net.launch(), plain.launch());
    }

    private void due(String call, int got, int want) {
        checks.due(call, want, got);
    }

    private void due(String call, boolean got, boolean want) {
        checks.due(call, want, got);
    }
}
