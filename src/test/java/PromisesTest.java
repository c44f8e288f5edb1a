/** Each promise of the document by its number: ordinary calls, the edges it names, and wrong inputs. */
public final class PromisesTest {
    private static final int LEAST = Integer.MIN_VALUE;
    private static final int GREATEST = Integer.MAX_VALUE;
    private static final int ALL = 0;
    private static final int ONE = 1;
    private static final int SOME = 2;

    private final Checks checks = new Checks();
    private CaseNet net = new CaseNet();

    public static void main(String[] args) {
        PromisesTest test = new PromisesTest();
        test.newObject();
        test.taskRefusals();
        test.taskIsDefinedAnew();
        test.region();
        test.guard();
        test.guardOfOneAndSome();
        test.items();
        test.launchAndCancel();
        test.enabledByJoin();
        test.enabledJoinSome();
        test.fire();
        test.fireUntilFull();
        test.start();
        test.finish();
        test.finishClearsTheRegion();
        test.fail();
        test.tick();
        test.variables();
        test.item();
        test.covers();
        test.coversByMoves();
        test.verdict();
        test.verdictParts();
        test.checks.endProgram();
    }

    private void begin(String text) {
        checks.about(text);
        net = new CaseNet();
    }

    private static int mask(int... bits) {
        int mask = 0;
        for (int bit : bits) {
            mask |= 1 << bit;
        }
        return mask;
    }

    private void define(int t, int join, int split, int ins, int outs) {
        checks.due("task " + t, true, net.task(t, join, split, ins, outs));
    }

    private void launch() {
        checks.due("launch", true, net.launch());
    }

    private void marked(int... places) {
        checks.due("marking", mask(places), net.marking());
    }

    private void enabled(int... tasks) {
        checks.due("enabled", mask(tasks), net.enabled());
    }

    private void states(int first, int... states) {
        for (int i = 0; i < states.length; i++) {
            checks.due("state of item " + (first + i), states[i], net.item(first + i, 1));
        }
    }

    /** Fires a task of one item and finishes it. */
    private void go(int t, int value) {
        int item = net.fire(t);
        checks.due("start of task " + t, 0, net.start(item));
        checks.due("finish of task " + t, 1, net.finish(item, value));
    }

    private void newObject() {
        begin("promise 1");
        marked();
        enabled();
        for (int i = -1; i <= 4; i++) {
            checks.due("variable", 0, net.variable(i));
        }
        checks.due("clock", 0, net.tick(0));
        checks.due("cancel", false, net.cancel());
        checks.due("launch", false, net.launch());
        checks.due("verdict", -1, net.verdict());
        for (int t = -1; t <= 6; t++) {
            checks.due("region", false, net.region(t, 0));
            checks.due("guard", false, net.guard(t, 1, 0, 0, 0));
            checks.due("items", false, net.items(t, 1, 1, 0, 0));
            checks.due("fire", -1, net.fire(t));
        }
        checks.due("item", -1, net.item(1, 1));
        checks.due("covers with no move", 0, net.covers(1, 2, -1));
    }

    private void taskRefusals() {
        begin("promise 2, refused");
        checks.due("task -1", false, net.task(-1, 0, 0, 1, 2));
        checks.due("task 6", false, net.task(6, 0, 0, 1, 2));
        checks.due("join -1", false, net.task(0, -1, 0, 1, 2));
        checks.due("join 3", false, net.task(0, 3, 0, 1, 2));
        checks.due("split -1", false, net.task(0, 0, -1, 1, 2));
        checks.due("split 3", false, net.task(0, 0, 3, 1, 2));
        int[] wrong = {0, 0b1111, 0b100000000, 0b100000001, -1, LEAST, LEAST + 1, 0xF0};
        for (int ends : wrong) {
            checks.due("ins " + ends, false, net.task(0, 0, 0, ends, 2));
            checks.due("outs " + ends, false, net.task(0, 0, 0, 1, ends));
        }
        checks.due("nothing was defined", false, net.launch());
        int[] right = {1, 0b10000000, 0b11000000, 0b11100000, 0b10000001, 0b10010001};
        for (int ends : right) {
            checks.due("ends " + ends, true, net.task(5, 2, 2, ends, ends));
        }
        define(5, ALL, ALL, 1, 2);
        launch();
        checks.due("task while a case is on", false, net.task(5, 0, 0, 1, 4));
        checks.due("new task while a case is on", false, net.task(4, 0, 0, 1, 4));
        enabled(5);
        go(5, 0);
        marked(1);
        net.cancel();
        define(5, ALL, ALL, 1, 4);
        launch();
        go(5, 0);
        marked(2);
    }

    private void taskIsDefinedAnew() {
        begin("promise 2, in place of what it was");
        define(0, ALL, ONE, 1, mask(1, 2));
        net.region(0, mask(3));
        net.guard(0, 1, 0, 5, 5);
        net.items(0, 3, 2, 3, 1);
        define(0, ALL, ONE, 1, mask(1, 2));
        define(1, ALL, ALL, mask(1), mask(0, 3));
        launch();
        go(0, 7);
        checks.due("variable 0 again", 7, net.variable(0));
        checks.due("variable 3 no more", 0, net.variable(3));
        marked(1);
        go(1, 0);
        marked(0, 3);
        checks.due("one item again", 3, net.fire(0));
        checks.due("no deadline again", 100, net.tick(100));
        states(3, 1);
        net.start(3);
        checks.due("finish", 1, net.finish(3, LEAST));
        marked(1, 3);
    }

    private void region() {
        begin("promise 3");
        define(2, ALL, ALL, 1, 2);
        checks.due("undefined task", false, net.region(1, 0));
        checks.due("no task", false, net.region(-1, 0));
        checks.due("no task", false, net.region(6, 0));
        checks.due("no place", false, net.region(2, 1 << 14));
        checks.due("no place", false, net.region(2, -1));
        checks.due("no place", false, net.region(2, LEAST));
        checks.due("all places", true, net.region(2, (1 << 14) - 1));
        checks.due("none", true, net.region(2, 0));
        define(3, ALL, ALL, 1, mask(0, 2));
        define(4, ALL, ALL, mask(2), mask(1));
        checks.due("region", true, net.region(4, mask(0)));
        launch();
        checks.due("while a case is on", false, net.region(4, 0));
        go(3, 0);
        marked(0, 2);
        go(4, 0);
        marked(1);
        net.cancel();
        checks.due("region", true, net.region(4, mask(3)));
        launch();
        go(3, 0);
        go(4, 0);
        marked(0, 1);
    }

    private void guard() {
        begin("promise 4");
        define(0, ALL, ONE, 1, mask(1, 7));
        checks.due("undefined task", false, net.guard(1, 1, 0, 0, 0));
        checks.due("no task", false, net.guard(-1, 1, 0, 0, 0));
        checks.due("no task", false, net.guard(6, 1, 0, 0, 0));
        int[] wrong = {-1, 0, 2, 6, 8, 31, 32, 33, 39, -31, LEAST, GREATEST};
        for (int c : wrong) {
            checks.due("no output " + c, false, net.guard(0, c, 0, 0, 0));
        }
        checks.due("variable -1", false, net.guard(0, 1, -1, 0, 0));
        checks.due("variable 4", false, net.guard(0, 1, 4, 0, 0));
        checks.due("guard", true, net.guard(0, 1, 3, 2, 4));
        checks.due("guard", true, net.guard(0, 7, 3, LEAST, GREATEST));
        launch();
        checks.due("while a case is on", false, net.guard(0, 1, 3, LEAST, GREATEST));
        net.set(3, 5);
        go(0, 0);
        marked(7);
    }

    private void outputsAre(int value, int... outputs) {
        net.launch();
        go(0, value);
        marked(outputs);
        net.cancel();
    }

    private void guardOfOneAndSome() {
        begin("promise 4, split ONE");
        define(0, ALL, ONE, 1, mask(1, 3, 5));
        outputsAre(LEAST, 1);
        outputsAre(GREATEST, 1);
        net.guard(0, 1, 0, 3, 4);
        net.guard(0, 3, 0, 4, 5);
        net.guard(0, 5, 0, 9, 9);
        outputsAre(2, 5);
        outputsAre(3, 1);
        outputsAre(4, 1);
        outputsAre(5, 3);
        outputsAre(6, 5);
        outputsAre(9, 5);
        net.guard(0, 1, 0, 1, 0);
        outputsAre(0, 5);
        outputsAre(1, 5);
        begin("promise 4, split SOME");
        define(0, ALL, SOME, 1, mask(1, 3, 5));
        outputsAre(0, 1, 3, 5);
        net.guard(0, 1, 0, 3, 4);
        net.guard(0, 3, 0, 4, 5);
        net.guard(0, 5, 0, 9, 9);
        outputsAre(2, 5);
        outputsAre(3, 1);
        outputsAre(4, 1, 3);
        outputsAre(5, 3);
        outputsAre(9, 5);
        begin("promise 4, split ALL");
        define(0, ALL, ALL, 1, mask(1, 3, 5));
        net.guard(0, 1, 0, 3, 4);
        outputsAre(0, 1, 3, 5);
    }

    private void items() {
        begin("promise 5");
        define(0, ALL, ALL, 1, 2);
        checks.due("undefined task", false, net.items(1, 1, 1, 0, 0));
        checks.due("no task", false, net.items(-1, 1, 1, 0, 0));
        checks.due("no task", false, net.items(6, 1, 1, 0, 0));
        checks.due("number 0", false, net.items(0, 0, 1, 0, 0));
        checks.due("number and threshold 0", false, net.items(0, 0, 0, 0, 0));
        checks.due("number 5", false, net.items(0, 5, 1, 0, 0));
        checks.due("threshold 0", false, net.items(0, 4, 0, 0, 0));
        checks.due("threshold above number", false, net.items(0, 2, 3, 0, 0));
        checks.due("variable -1", false, net.items(0, 2, 2, -1, 0));
        checks.due("variable 4", false, net.items(0, 2, 2, 4, 0));
        checks.due("deadline -1", false, net.items(0, 2, 2, 0, -1));
        checks.due("deadline 101", false, net.items(0, 2, 2, 0, 101));
        checks.due("the greatest", true, net.items(0, 4, 4, 3, 100));
        checks.due("as said", true, net.items(0, 3, 2, 1, 0));
        launch();
        checks.due("while a case is on", false, net.items(0, 1, 1, 0, 0));
        checks.due("fire", 1, net.fire(0));
        states(1, 1, 1, 1, -1);
        net.start(1);
        net.start(2);
        checks.due("finish", 0, net.finish(1, 8));
        checks.due("finish", 1, net.finish(2, 9));
        checks.due("its variable", 9, net.variable(1));
        states(1, 3, 3, 5);
    }

    private void launchAndCancel() {
        begin("promises 6, 7 and 16");
        define(3, ALL, ALL, 1, mask(1, 4));
        define(4, ALL, ALL, mask(4), mask(5));
        net.items(4, 2, 2, 0, 0);
        checks.due("cancel before launch", false, net.cancel());
        launch();
        marked(0);
        checks.due("launch twice", false, net.launch());
        go(3, 6);
        marked(1, 4);
        checks.due("launch later", false, net.launch());
        checks.due("fire", 2, net.fire(4));
        net.start(3);
        marked(1, 12);
        checks.due("cancel", true, net.cancel());
        marked();
        states(1, 3, 5, 5);
        enabled();
        checks.due("cancel twice", false, net.cancel());
        checks.due("start of what was withdrawn", -2, net.start(2));
        checks.due("finish of what was withdrawn", -2, net.finish(3, 1));
        checks.due("fail of what was withdrawn", -2, net.fail(3));
        checks.due("fire with no case on", -2, net.fire(3));
        net.tick(4);
        launch();
        marked(0);
        checks.due("variables stay", 6, net.variable(0));
        checks.due("the clock stays", 4, net.tick(0));
        checks.due("ids go on", 4, net.fire(3));
        marked(11);
    }

    private void enabledByJoin() {
        begin("promise 8");
        define(0, ALL, SOME, 1, mask(2, 3, 4));
        for (int c = 2; c <= 4; c++) {
            net.guard(0, c, c - 1, 1, 1);
        }
        define(1, ALL, ALL, mask(2, 3), mask(5));
        define(2, ONE, ALL, mask(2, 3), mask(6));
        define(5, ONE, ALL, mask(4), mask(2));
        enabled();
        launch();
        enabled(0);
        net.set(2, 1);
        net.fire(0);
        enabled();
        net.start(1);
        net.finish(1, 0);
        marked(3);
        enabled(2);
        net.cancel();
        net.set(1, 1);
        launch();
        go(0, 0);
        marked(2, 3);
        enabled(1, 2);
        net.fire(2);
        marked(3, 10);
        enabled();
        net.cancel();
        net.set(3, 1);
        launch();
        go(0, 0);
        enabled(1, 2, 5);
        net.fire(2);
        go(5, 0);
        marked(2, 3, 10);
        enabled(1);
    }

    private void enabledJoinSome() {
        begin("promise 8, join SOME");
        define(0, ALL, ALL, 1, mask(2, 3));
        define(1, ALL, ONE, mask(3), mask(4, 5));
        net.guard(1, 4, 0, 1, 1);
        define(2, SOME, ALL, mask(2, 4), mask(1));
        define(3, SOME, ALL, mask(2, 6), mask(7));
        launch();
        enabled(0);
        go(0, 0);
        enabled(1, 3);
        net.fire(1);
        enabled(3);
        net.start(2);
        net.finish(2, 0);
        marked(2, 5);
        enabled(2, 3);
        net.fire(2);
        marked(5, 10);
        net.cancel();
        launch();
        go(0, 0);
        go(1, 1);
        marked(2, 4);
        enabled(2, 3);
        net.fire(2);
        marked(10);

        begin("promise 8, one more input is enough to wait for");
        define(0, ALL, ALL, 1, mask(2, 3));
        define(1, ALL, ONE, mask(3), mask(4, 5));
        define(2, SOME, ALL, mask(2, 4, 5), mask(1));
        launch();
        go(0, 0);
        enabled(1);
        net.fire(1);
        enabled();
        net.start(2);
        net.finish(2, 0);
        marked(2, 4);
        enabled(2);

        begin("promise 8, what comes must leave what is there");
        define(0, ALL, ALL, 1, mask(2, 3));
        define(1, ALL, ALL, mask(3), mask(4));
        net.region(1, mask(2));
        define(2, SOME, ALL, mask(2, 4), mask(1));
        launch();
        go(0, 0);
        enabled(1, 2);
        net.cancel();
        net.region(1, mask(5));
        launch();
        go(0, 0);
        enabled(1);

        begin("promise 8, a task does not bring its own inputs");
        define(0, SOME, ALL, mask(0, 2), mask(0, 2));
        launch();
        enabled(0);
        net.cancel();
        define(1, SOME, ALL, mask(0), mask(2));
        launch();
        enabled(0, 1);
        net.cancel();
        define(1, ALL, ALL, mask(0), mask(0, 2));
        launch();
        enabled(1);
    }

    private void fire() {
        begin("promise 9");
        define(0, ALL, ALL, mask(0), mask(2, 3, 4));
        define(1, ONE, ALL, mask(3, 4), mask(5));
        define(2, SOME, ALL, mask(2, 3, 4), mask(6));
        define(3, ALL, ALL, mask(2, 4), mask(7));
        net.items(1, 3, 1, 0, 0);
        checks.due("task -1", -1, net.fire(-1));
        checks.due("task 6", -1, net.fire(6));
        checks.due("undefined", -1, net.fire(4));
        checks.due("no case", -2, net.fire(0));
        launch();
        checks.due("not enabled", -2, net.fire(1));
        go(0, 0);
        marked(2, 3, 4);
        checks.due("the next ids", 2, net.fire(1));
        marked(2, 4, 9);
        states(2, 1, 1, 1, -1);
        checks.due("it runs", -2, net.fire(1));
        checks.due("the next id", 5, net.fire(2));
        marked(9, 10);
        checks.due("inputs are gone", -2, net.fire(3));
        checks.due("task of an item", 2, net.item(5, 0));
        net.cancel();
        launch();
        go(0, 0);
        checks.due("join ALL", 7, net.fire(3));
        marked(3, 11);
    }

    private void fireUntilFull() {
        begin("promise 9, FULL");
        define(0, ALL, ALL, 1, 1);
        net.items(0, 4, 1, 0, 0);
        define(1, ALL, ALL, 1, 1);
        net.items(1, 3, 1, 0, 0);
        define(2, ALL, ALL, 2, 2);
        launch();
        for (int first = 1; first <= 53; first += 4) {
            checks.due("fire", first, net.fire(0));
            net.start(first);
            net.finish(first, 0);
        }
        checks.due("57 to 59", 57, net.fire(1));
        net.start(59);
        checks.due("finish", 1, net.finish(59, 0));
        checks.due("not enabled before full", -2, net.fire(2));
        checks.due("undefined before full", -1, net.fire(5));
        checks.due("60 to 62", -3, net.fire(1));
        marked(0);
        enabled(0, 1);
        states(60, -1);
        net.cancel();
        define(3, ALL, ALL, 1, 1);
        launch();
        checks.due("the last one", 60, net.fire(3));
        net.start(60);
        checks.due("finish", 1, net.finish(60, 1));
        checks.due("none left", -3, net.fire(3));
        checks.due("no item 61", -1, net.start(61));
        states(60, 3);
    }

    private void start() {
        begin("promise 10");
        define(0, ALL, ALL, 1, 2);
        net.items(0, 3, 3, 0, 0);
        launch();
        checks.due("none yet", -1, net.start(1));
        net.fire(0);
        int[] wrong = {0, -1, 4, 61, LEAST, GREATEST};
        for (int id : wrong) {
            checks.due("no item " + id, -1, net.start(id));
            checks.due("no item " + id, -1, net.finish(id, 1));
            checks.due("no item " + id, -1, net.fail(id));
        }
        checks.due("start", 0, net.start(3));
        states(1, 1, 1, 2);
        checks.due("twice", -2, net.start(3));
        net.finish(3, 0);
        checks.due("completed", -2, net.start(3));
        net.fail(2);
        checks.due("failed", -2, net.start(2));
        states(1, 1, 4, 3);
    }

    private void finish() {
        begin("promise 11");
        define(0, ALL, ALL, 1, mask(0, 1));
        net.items(0, 3, 2, 2, 0);
        launch();
        net.fire(0);
        checks.due("offered", -2, net.finish(1, 5));
        checks.due("variable stays", 0, net.variable(2));
        net.start(1);
        checks.due("first", 0, net.finish(1, 5));
        checks.due("variable", 5, net.variable(2));
        checks.due("completed", -2, net.finish(1, 6));
        checks.due("variable stays", 5, net.variable(2));
        checks.due("fail", 0, net.fail(2));
        checks.due("failed", -2, net.finish(2, 6));
        net.start(3);
        marked(8);
        checks.due("second", 1, net.finish(3, GREATEST));
        checks.due("variable", GREATEST, net.variable(2));
        marked(0, 1);
        checks.due("ended", -2, net.finish(3, 1));

        checks.about("promise 11, stopped by its last item");
        checks.due("fire", 4, net.fire(0));
        checks.due("fail", 0, net.fail(4));
        checks.due("fail", 0, net.fail(5));
        net.start(6);
        checks.due("completed, but not ended", 0, net.finish(6, 7));
        checks.due("variable", 7, net.variable(2));
        marked(1);
        states(4, 4, 4, 3);
        enabled();
    }

    private void finishClearsTheRegion() {
        begin("promise 11, the region");
        define(0, ALL, ALL, 1, mask(2, 3, 4));
        define(1, ALL, ALL, mask(2), mask(3, 5));
        net.region(1, mask(3, 4, 6, 9, 10, 11));
        define(2, ALL, ALL, mask(3), mask(6));
        define(3, ALL, ALL, mask(4), mask(7));
        net.items(2, 2, 2, 0, 0);
        launch();
        go(0, 0);
        checks.due("fire", 2, net.fire(2));
        net.start(2);
        checks.due("fire", 4, net.fire(1));
        net.start(4);
        marked(4, 9, 10);
        checks.due("finish", 1, net.finish(4, 0));
        marked(3, 5);
        states(2, 5, 5, 3);
        enabled(2);
        checks.due("fired again", 5, net.fire(2));
        net.start(5);
        net.start(6);
        checks.due("the items of the last firing count", 0, net.finish(5, 0));
        checks.due("finish", 1, net.finish(6, 0));
        marked(5, 6);
    }

    private void fail() {
        begin("promise 12");
        define(0, ALL, ALL, 1, 2);
        net.items(0, 3, 1, 0, 0);
        net.region(0, mask(4));
        define(1, ALL, ALL, 1, mask(0, 4));
        launch();
        go(1, 0);
        net.fire(0);
        net.start(3);
        checks.due("offered", 0, net.fail(2));
        checks.due("twice", -2, net.fail(2));
        checks.due("started", 0, net.fail(3));
        marked(4, 8);
        checks.due("the last one", 1, net.fail(4));
        marked(4);
        states(2, 4, 4, 4);
        checks.due("after the task stopped", -2, net.fail(4));
        checks.due("completed", -2, net.fail(1));
        net.cancel();
        net.items(0, 2, 2, 0, 0);
        launch();
        net.fire(0);
        net.start(5);
        net.finish(5, 0);
        checks.due("the only open one", 1, net.fail(6));
        marked();
        states(5, 3, 4);
    }

    private void tick() {
        begin("promise 13");
        define(0, ALL, ALL, 1, mask(0, 2));
        define(1, ALL, ALL, mask(2), mask(3));
        net.items(0, 2, 1, 0, 5);
        checks.due("0", 0, net.tick(0));
        checks.due("100", 100, net.tick(100));
        checks.due("101", 100, net.tick(101));
        checks.due("-1", 100, net.tick(-1));
        checks.due("least", 100, net.tick(LEAST));
        launch();
        net.fire(0);
        checks.due("offered at", 100, net.item(1, 2));
        net.start(1);
        checks.due("one before", 104, net.tick(4));
        states(1, 2, 1);
        checks.due("101 again", 104, net.tick(101));
        states(1, 2, 1);
        checks.due("just then", 105, net.tick(1));
        states(1, 4, 4);
        marked();
        net.cancel();
        launch();
        net.fire(0);
        net.start(3);
        net.finish(3, 0);
        net.fire(1);
        checks.due("more than the deadline", 205, net.tick(100));
        states(3, 3, 5, 1);
        marked(0, 9);
        net.fire(0);
        net.tick(2);
        net.fail(6);
        net.tick(3);
        states(5, 1, 4, 4);
        marked(9);
        checks.due("clock", 210, net.tick(0));
    }

    private void variables() {
        begin("promises 14 and 15");
        for (int v = 0; v < 4; v++) {
            checks.due("set", true, net.set(v, 10 + v));
        }
        checks.due("set", true, net.set(3, LEAST));
        int[] wrong = {-1, 4, LEAST, GREATEST};
        for (int v : wrong) {
            checks.due("set " + v, false, net.set(v, 9));
            checks.due("variable " + v, 0, net.variable(v));
        }
        for (int v = 0; v < 3; v++) {
            checks.due("variable " + v, 10 + v, net.variable(v));
        }
        checks.due("variable 3", LEAST, net.variable(3));
        define(0, ALL, ALL, 1, 2);
        launch();
        checks.due("set while a case is on", true, net.set(0, GREATEST));
        checks.due("variable 0", GREATEST, net.variable(0));
    }

    private void item() {
        begin("promise 17");
        define(4, ALL, ALL, 1, 1);
        net.items(4, 2, 2, 0, 0);
        launch();
        net.tick(7);
        net.fire(4);
        net.tick(5);
        for (int id = 1; id <= 2; id++) {
            checks.due("task", 4, net.item(id, 0));
            checks.due("state", 1, net.item(id, 1));
            checks.due("offered", 7, net.item(id, 2));
            checks.due("what 3", -1, net.item(id, 3));
            checks.due("what -1", -1, net.item(id, -1));
        }
        int[] wrong = {0, -1, 3, 60, 61, LEAST, GREATEST};
        for (int id : wrong) {
            for (int what = 0; what <= 2; what++) {
                checks.due("no item " + id, -1, net.item(id, what));
            }
        }
        net.start(1);
        net.start(2);
        states(1, 2, 2);
        net.finish(2, 0);
        net.cancel();
        states(1, 5, 3);
        checks.due("offered", 7, net.item(2, 2));
    }

    private void covered(int want, int from, int target, int without) {
        checks.due("covers(" + from + ", " + target + ", " + without + ")", want,
                net.covers(from, target, without));
    }

    private void covers() {
        begin("promise 18");
        covered(1, 0, 0, -1);
        covered(1, 0x3FFF, 0x3FFF, 5);
        covered(0, 0x3FFE, 0x3FFF, 5);
        int[] wrong = {-1, 1 << 14, LEAST, GREATEST};
        for (int mask : wrong) {
            covered(-1, mask, 0, -1);
            covered(-1, 0, mask, -1);
        }
        covered(-1, 0, 0, -2);
        covered(-1, 0, 0, 6);
        define(0, ALL, ALL, mask(0), mask(2, 3));
        define(1, ALL, ALL, mask(2, 3), mask(1));
        covered(1, 1, mask(1), -1);
        covered(0, 1, mask(1), 0);
        covered(0, 1, mask(1), 1);
        covered(1, 1, mask(1), 5);
        covered(1, 1, mask(8), -1);
        covered(0, 1, mask(8, 2), -1);
        covered(1, mask(0, 8), mask(8, 2), -1);
        covered(1, mask(8), mask(2, 3), -1);
        covered(0, mask(2), mask(1), -1);
        covered(0, 1, mask(1, 2), -1);
        launch();
        covered(1, 1, mask(1), -1);
        marked(0);
    }

    private void coversByMoves() {
        begin("promise 18, joins and splits");
        define(0, ONE, ONE, mask(2, 3), mask(4, 5));
        covered(1, mask(2), mask(4), -1);
        covered(1, mask(3), mask(5), -1);
        covered(0, mask(3), mask(4, 5), -1);
        covered(1, mask(2, 3), mask(4, 5), -1);
        define(0, SOME, SOME, mask(2, 3), mask(4, 5));
        covered(1, mask(2), mask(4, 5), -1);
        covered(1, mask(2, 3), mask(3, 4, 5), -1);
        define(0, ALL, ALL, mask(2, 3), mask(3, 4));
        covered(0, mask(2), mask(4), -1);
        covered(1, mask(2, 3), mask(3, 4), -1);
        covered(0, mask(2, 3), mask(2, 4), -1);

        checks.about("promise 18, regions");
        define(0, ALL, ALL, mask(2), mask(4));
        net.region(0, mask(3, 4, 9));
        covered(0, mask(2, 3), mask(3, 4), -1);
        covered(1, mask(2, 3), mask(3, 8), -1);
        covered(1, mask(2, 4), mask(4), -1);
        define(1, ALL, ALL, mask(3), mask(5));
        covered(0, mask(2, 9), mask(4, 9), -1);
        covered(1, mask(2, 9), mask(4, 5), -1);
        covered(1, mask(2, 3), mask(4, 5), -1);
        net.region(1, mask(4, 8));
        covered(0, mask(2, 3), mask(4, 9), -1);
        covered(1, mask(2, 3), mask(4, 5), -1);
        net.region(0, mask(3, 4, 5, 9));
        covered(0, mask(2, 3), mask(4, 5), -1);
    }

    private void judged(int want) {
        checks.due("verdict", want, net.verdict());
    }

    private void verdict() {
        begin("promise 19, none");
        judged(-1);
        define(5, ALL, ALL, 1, 2);
        judged(7);
        define(4, SOME, ALL, 1, 2);
        judged(-1);
        define(4, ONE, SOME, 1, 2);
        judged(7);
        launch();
        go(5, 0);
        judged(7);
        marked(1);
    }

    private void verdictParts() {
        begin("promise 19, its parts");
        define(0, ALL, ALL, mask(2), mask(1));
        judged(2);
        define(0, ALL, ALL, 1, mask(2));
        judged(2 + 4);
        define(1, ALL, ALL, mask(2), mask(1));
        judged(7);
        define(2, ALL, ALL, mask(3), mask(1));
        judged(1 + 2);
        define(2, ALL, ALL, mask(2), mask(4));
        judged(2 + 4);
        define(2, ALL, ALL, mask(2), mask(1, 4));
        judged(1 + 4);
        define(2, ALL, ALL, mask(2), mask(2, 4));
        judged(1 + 4);
        net.region(1, mask(4));
        judged(7);
        net.region(1, mask(4, 8));
        judged(7);
        define(3, ALL, ALL, mask(1, 2), mask(1));
        judged(1 + 2);
        define(3, ALL, ALL, mask(1), mask(0));
        judged(7);
        net.guard(0, 2, 0, 1, 0);
        net.items(0, 2, 2, 0, 1);
        judged(7);

        begin("promise 19, loops");
        define(0, ALL, ONE, 1, mask(0, 1));
        judged(7);
        define(1, ONE, ALL, mask(0, 2), mask(1));
        judged(7);
        define(0, ALL, ALL, 1, mask(0, 2));
        judged(1 + 4);
    }
}
