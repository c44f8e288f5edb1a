import java.util.Random;

/**
 * Runs of calls, made up with fixed seeds, must be answered as PlainNet answers them, and as an object
 * answers on which the calls that are refused were never made.
 */
public final class RandomRunsTest {
    private static final int RUNS = 4000;
    /** Left at the end of a run, to look at each item. */
    private static final int LAST_CALLS = 130;

    private static final String[] NAMES = {
        "task", "region", "guard", "items", "fire", "start", "finish", "fail", "tick", "set", "variable", "item",
        "covers"
    };
    private static final int[] ARGUMENTS = {5, 2, 5, 5, 1, 1, 2, 1, 1, 2, 1, 2, 3};

    private final Checks checks;
    private final Random random;
    private final Trace net = new Trace();
    private final PlainNet plain = new PlainNet();
    private final CaseNet spared = new CaseNet();
    private int made;

    private RandomRunsTest(Checks checks, int seed) {
        this.checks = checks;
        random = new Random(seed);
        checks.about("random run " + seed);
    }

    public static void main(String[] args) {
        Checks checks = new Checks();
        for (int seed = 0; seed < RUNS; seed++) {
            new RandomRunsTest(checks, seed).run();
        }
        checks.endProgram();
    }

    private void run() {
        if (random.nextInt(6) == 0) {
            makeItems(between(10, 15));
        }
        while (hasCallsLeft()) {
            designCalls(between(6, 20));
            for (int round = between(1, 3); round > 0 && hasCallsLeft(); round--) {
                due("launch");
                workUntilNothingGoesOn(between(10, 80));
                due("cancel");
            }
        }
        lookAtItems();
    }

    /** So that some runs come to the greatest number of items. */
    private void makeItems(int rounds) {
        due("task", 0, 0, 0, 1, 1);
        due("items", 0, 4, 1, 0, 0);
        due("launch");
        for (int i = 0; i < rounds; i++) {
            due("fire", 0);
            due("start", made);
            due("finish", made, value());
        }
        due("cancel");
    }

    private boolean hasCallsLeft() {
        return net.callsLeft() > LAST_CALLS;
    }

    private void due(String name, int... args) {
        Call call = new Call(name, args);
        long want = call.on(plain);
        checks.due(call.toString(), want, net.call(call));
        if (!call.isRefusedBy(want)) {
            checks.due(call + " without those refused", want, call.on(spared));
        }
        while (plain.item(made + 1, 0) >= 0) {
            made++;
        }
    }

    private int between(int low, int high) {
        return low + random.nextInt(high - low + 1);
    }

    private boolean rarely() {
        return random.nextInt(25) == 0;
    }

    private int taskNumber() {
        return rarely() ? between(-2, 8) : between(0, 5);
    }

    private int conditions() {
        if (rarely()) {
            return random.nextInt(512);
        }
        int mask = 0;
        for (int i = between(1, 3); i > 0; i--) {
            mask |= 1 << between(0, 7);
        }
        return mask;
    }

    private int places() {
        if (rarely()) {
            return random.nextBoolean() ? 1 << between(14, 31) : 0;
        }
        int mask = 0;
        for (int i = between(1, 4); i > 0; i--) {
            mask |= 1 << between(0, 13);
        }
        return mask;
    }

    private int value() {
        return rarely() ? random.nextInt() : between(-3, 3);
    }

    private int variableNumber() {
        return rarely() ? between(-2, 6) : between(0, 3);
    }

    private int wildNumber() {
        return switch (random.nextInt(6)) {
            case 0 -> Integer.MIN_VALUE + random.nextInt(2);
            case 1 -> Integer.MAX_VALUE - random.nextInt(2);
            case 2 -> 1 << random.nextInt(32);
            case 3 -> random.nextInt();
            default -> between(-1, 7);
        };
    }

    /** Any call with any numbers: it must be answered, and what is refused must change nothing. */
    private void wildCall() {
        int which = random.nextInt(NAMES.length);
        int[] args = new int[ARGUMENTS[which]];
        for (int i = 0; i < args.length; i++) {
            args[i] = wildNumber();
        }
        due(NAMES[which], args);
    }

    private void designCalls(int calls) {
        for (int i = 0; i < calls && hasCallsLeft(); i++) {
            designCall();
            if (rarely()) {
                wildCall();
            }
        }
        for (int i = 0; i < 5 && hasCallsLeft(); i++) {
            due("verdict");
            due("covers", places(), random.nextBoolean() ? conditions() : places(),
                    rarely() ? between(-3, 8) : between(-1, 5));
            designCall();
        }
    }

    private void designCall() {
        int t = taskNumber();
        switch (random.nextInt(10)) {
            case 0 -> due("region", t, places());
            case 1, 2 -> due("guard", t, between(-1, 8), variableNumber(),
                    rarely() ? value() : between(-2, 2), rarely() ? value() : between(-2, 2));
            case 3, 4, 5 -> {
                int number = rarely() ? between(0, 5) : between(1, 4);
                int threshold = rarely() ? between(0, 5) : between(1, Math.max(1, number));
                due("items", t, number, threshold, variableNumber(), rarely() ? between(-2, 103) : between(0, 9));
            }
            default -> {
                int join = rarely() ? between(-1, 3) : between(0, between(1, 2));
                int split = rarely() ? between(-1, 3) : between(0, 2);
                due("task", t, join, split, random.nextInt(4) == 0 ? 1 : conditions(), conditions());
            }
        }
    }

    private void workUntilNothingGoesOn(int calls) {
        for (int i = 0; i < calls && hasCallsLeft(); i++) {
            workCall();
            due("marking");
            if (plain.marking() >> 8 == 0 && plain.enabled() == 0 && random.nextInt(4) == 0) {
                return;
            }
        }
    }

    private void lookAtItems() {
        for (int id = 0; id <= made + 1; id++) {
            due("item", id, 1);
            due("item", id, rarely() ? between(-2, 4) : 2 * between(0, 1));
        }
    }

    private int itemNumber() {
        if (rarely()) {
            return between(-1, 62);
        }
        int open = 0;
        for (int id = 1; id <= made; id++) {
            boolean isOpen = plain.item(id, 1) <= 2;
            open = isOpen && (open == 0 || random.nextInt(3) == 0) ? id : open;
        }
        return open;
    }

    private void workCall() {
        switch (random.nextInt(16)) {
            case 0, 1, 2, 3 -> fireOneOf(plain.enabled());
            case 4, 5, 6 -> due("start", itemNumber());
            case 7, 8, 9 -> finish(itemNumber(), value());
            case 10 -> due("fail", itemNumber());
            case 11 -> due("tick", rarely() ? between(-200, 200) : between(0, 3));
            case 12 -> {
                int variable = variableNumber();
                due("set", variable, value());
                due("variable", variable);
            }
            case 13 -> due("enabled");
            case 14 -> wildCall();
            default -> callThatIsRefusedWhileACaseIsOn();
        }
    }

    private void finish(int item, int value) {
        due("finish", item, value);
        due("variable", between(-1, 4));
    }

    private void fireOneOf(int enabled) {
        int t = taskNumber();
        for (int tries = 0; tries < 20 && (enabled >> t & 1) == 0; tries++) {
            t = taskNumber();
        }
        due("fire", t);
    }

    private void callThatIsRefusedWhileACaseIsOn() {
        if (random.nextInt(4) == 0) {
            due("launch");
        } else {
            designCall();
        }
    }
}
