/** The sentences of the promises 1 to 19 that name a boundary case, one after the other. */
public final class BoundaryPromisesTest extends Sentences {
    private static final int[] NO_TASKS = {-1, 6, 32, -32, LEAST, GREATEST};
    private static final int[] NO_VARIABLES = {-1, 4, 32, LEAST, GREATEST};
    private static final int[] NO_PLACES = {mask(14), mask(0, 14), mask(31), mask(8, 31), -1, LEAST, GREATEST};

    public static void main(String[] args) {
        BoundaryPromisesTest test = new BoundaryPromisesTest();
        test.promise1NewObject();
        test.promise2TaskInPlace();
        test.promise2TaskRefused();
        test.promise3Region();
        test.promise4Guard();
        test.promise5Items();
        test.promise5ItemsRefused();
        test.promise6Launch();
        test.promise7Cancel();
        test.promise8Enabled();
        test.promise9Fire();
        test.promise9FireUntilFull();
        test.promise10Start();
        test.promise11Finish();
        test.promise12Fail();
        test.promise13Tick();
        test.promise13TickFails();
        test.promises14And15Variables();
        test.promise16Marking();
        test.promise17Item();
        test.promise18Covers();
        test.promise19Verdict();
        test.endProgram();
    }

    private void promise1NewObject() {
        sentence("promise 1: no task is defined");
        for (int t = 0; t < 6; t++) {
            bad("fire", t);
            no("region", t, 0);
            no("guard", t, 1, 0, 0, 0);
            no("items", t, 1, 1, 0, 0);
        }
        no("launch");
        is(-1, "verdict");
        is(0, "covers", mask(0), mask(1), -1);

        sentence("promise 1: no case is on");
        no("cancel");
        marked();
        enabled();
        yes("task", 0, ALL, ALL, mask(0), mask(1));
        no("cancel");
        marked();
        yes("launch");

        sentence("promise 1: all variables and the clock are 0");
        for (int v = 0; v <= 3; v++) {
            is(0, "variable", v);
        }
        is(0, "tick", 0);

        sentence("promise 1: there is no item");
        bad("item", 1, 0);
        bad("item", 0, 1);
        bad("start", 1);
        bad("finish", 1, 0);
        bad("fail", 1);
    }

    private void promise2TaskInPlace() {
        sentence("promise 2: in place of what it was, join, split, inputs and outputs");
        yes("task", 0, ONE, ONE, mask(0, 3), mask(1, 2));
        is(1, "covers", mask(3), mask(8), -1);
        yes("task", 0, ALL, ALL, mask(0, 4), mask(5, 6));
        is(0, "covers", mask(0), mask(8), -1);
        is(0, "covers", mask(3), mask(8), -1);
        is(1, "covers", mask(0, 4), mask(8), -1);
        is(0, "covers", mask(8), mask(1), -1);
        is(1, "covers", mask(8), mask(5, 6), -1);

        sentence("promise 2: its region is as at first");
        yes("task", 0, ALL, ALL, mask(0), mask(1));
        yes("region", 0, mask(3, 9));
        is(0, "covers", mask(3, 8), mask(1, 3), -1);
        yes("task", 0, ALL, ALL, mask(0), mask(1));
        is(1, "covers", mask(3, 8, 9), mask(1, 3, 9), -1);

        sentence("promise 2: its guards are as at first");
        yes("task", 0, ALL, ONE, mask(0), mask(1, 2));
        yes("guard", 0, 1, 3, 5, 5);
        yes("task", 0, ALL, ONE, mask(0), mask(1, 2));
        yes("launch");
        ended(0, 1, LEAST);
        marked(1);

        sentence("promise 2: the guards of other outputs, too, once they are its outputs again");
        yes("task", 0, ALL, ONE, mask(0), mask(1, 2));
        yes("guard", 0, 1, 3, 5, 5);
        yes("task", 0, ALL, ONE, mask(0), mask(3));
        yes("task", 0, ALL, ONE, mask(0), mask(1, 2));
        yes("launch");
        ended(0, 1, 0);
        marked(1);

        sentence("promise 2: its number and threshold are as at first");
        yes("task", 0, ALL, ALL, mask(0), mask(1));
        yes("items", 0, 4, 3, 0, 0);
        yes("task", 0, ALL, ALL, mask(0), mask(1));
        yes("launch");
        is(1, "fire", 0);
        states(1, 1, -1);
        finished(1, 1, 0);

        sentence("promise 2: its variable and deadline are as at first");
        yes("task", 0, ALL, ALL, mask(0), mask(1));
        yes("items", 0, 1, 1, 2, 1);
        yes("task", 0, ALL, ALL, mask(0), mask(1));
        yes("launch");
        is(1, "fire", 0);
        is(100, "tick", 100);
        states(1, 1);
        finished(1, 1, 7);
        is(7, "variable", 0);
        is(0, "variable", 2);

        sentence("promise 2: the other tasks stay as they are");
        yes("task", 1, ALL, ONE, mask(0), mask(1, 2));
        yes("guard", 1, 1, 0, 5, 5);
        yes("items", 1, 2, 2, 3, 0);
        yes("region", 1, mask(4));
        yes("task", 0, SOME, SOME, mask(3), mask(4));
        yes("task", 2, SOME, SOME, mask(3), mask(4));
        yes("launch");
        is(1, "fire", 1);
        finished(0, 1, 6);
        finished(1, 2, 7);
        is(7, "variable", 3);
        marked(2);
    }

    private void promise2TaskRefused() {
        sentence("promise 2: false when a case is on");
        fullyToldTask();
        yes("launch");
        no("task", 0, ALL, ONE, mask(0), mask(1, 2));
        no("task", 0, ONE, ALL, mask(2), mask(3));
        enabled(0);
        is(1, "fire", 0);
        no("task", 0, ONE, ALL, mask(2), mask(3));

        sentence("promise 2: false when a case is on: a task that was not defined is not");
        yes("task", 0, ALL, ALL, mask(0), mask(2));
        yes("launch");
        no("task", 1, ALL, ALL, mask(0), mask(1));
        enabled(0);
        bad("fire", 1);

        sentence("promise 2: true when no case is on any more");
        yes("task", 0, ALL, ALL, mask(0), mask(2));
        yes("launch");
        no("task", 1, ALL, ALL, mask(0), mask(1));
        yes("cancel");
        yes("task", 1, ALL, ALL, mask(0), mask(1));
        yes("task", 0, ALL, ALL, mask(0), mask(3));
        yes("launch");
        enabled(0, 1);
        ended(0, 1, 0);
        marked(3);

        sentence("promise 2: false when there is no such task");
        for (int t : NO_TASKS) {
            no("task", t, ALL, ALL, mask(0), mask(1));
        }
        no("launch");
        fullyToldTask();
        yes("task", 5, ALL, ALL, mask(0), mask(1));
        for (int t : NO_TASKS) {
            no("task", t, ALL, ALL, mask(2), mask(3));
        }

        sentence("promise 2: false when there is no such join");
        for (int join = ALL; join <= SOME; join++) {
            yes("task", 0, join, ONE, mask(0, 4), mask(1, 2));
            is(join == ALL ? 0 : 1, "covers", mask(0), mask(8), -1);
        }
        fullyToldTask();
        int[] noKinds = {-1, 3, 32, LEAST, GREATEST};
        for (int join : noKinds) {
            no("task", 0, join, ALL, mask(3), mask(3));
            no("task", 1, join, ALL, mask(3), mask(3));
        }

        sentence("promise 2: false when there is no such split");
        for (int split = ALL; split <= SOME; split++) {
            yes("task", 0, ALL, split, mask(0), mask(1, 2));
            is(split == ONE ? 0 : 1, "covers", mask(0), mask(1, 2), -1);
        }
        fullyToldTask();
        for (int split : noKinds) {
            no("task", 0, ONE, split, mask(3), mask(3));
            no("task", 1, ONE, split, mask(3), mask(3));
        }

        sentence("promise 2: false when ins are not a mask of 1 to 3 conditions");
        int[] notOneToThree = {0, mask(0, 1, 2, 3), mask(4, 5, 6, 7), 255, mask(8), mask(0, 8), -1, LEAST, GREATEST};
        fullyToldTask();
        for (int ins : notOneToThree) {
            no("task", 0, ONE, ALL, ins, mask(3));
            no("task", 1, ONE, ALL, ins, mask(3));
        }

        sentence("promise 2: false when outs are not a mask of 1 to 3 conditions");
        fullyToldTask();
        for (int outs : notOneToThree) {
            no("task", 0, ONE, ALL, mask(3), outs);
            no("task", 1, ONE, ALL, mask(3), outs);
        }
    }

    /** Task 0, with nothing as at first, so that each thing that a refused call changes can be seen. */
    private void fullyToldTask() {
        yes("task", 0, ALL, ONE, mask(0), mask(1, 2));
        yes("region", 0, mask(4, 11));
        yes("guard", 0, 1, 2, 5, 7);
        yes("guard", 0, 2, 3, 0, 0);
        yes("items", 0, 3, 2, 1, 5);
    }

    private void promise3Region() {
        sentence("promise 3: false when a case is on");
        yes("task", 0, ALL, ALL, mask(0), mask(2, 3));
        yes("task", 1, ALL, ALL, mask(2), mask(1));
        yes("region", 1, mask(3));
        yes("launch");
        no("region", 1, 0);
        no("region", 0, mask(2));
        ended(0, 1, 0);
        no("region", 1, mask(4));
        ended(1, 2, 0);
        marked(1);
        yes("cancel");
        yes("region", 1, mask(4));
        yes("launch");
        ended(0, 3, 0);
        ended(1, 4, 0);
        marked(1, 3);

        sentence("promise 3: false when the task is not defined");
        yes("task", 1, ALL, ALL, mask(0), mask(1));
        no("region", 0, mask(3));
        no("region", 2, mask(3));
        for (int t : NO_TASKS) {
            no("region", t, mask(3));
        }
        yes("region", 1, mask(3));
        // Defined later, a task has none of what was refused before.
        yes("task", 0, ALL, ALL, mask(0), mask(1));
        is(1, "covers", mask(3, 8), mask(1, 3), -1);

        sentence("promise 3: false when places is no mask of places");
        yes("task", 0, ALL, ALL, mask(0), mask(1));
        yes("region", 0, mask(4));
        for (int places : NO_PLACES) {
            no("region", 0, places);
        }
        is(0, "covers", mask(4, 8), mask(1, 4), -1);
        is(1, "covers", mask(3, 8, 13), mask(1, 3, 13), -1);
        for (int bit = 14; bit < 32; bit++) {
            no("region", 0, mask(3, bit));
        }

        sentence("promise 3: each place, all places and none make a region");
        yes("task", 0, ALL, ALL, mask(0), mask(1));
        for (int place = 0; place < 14; place++) {
            yes("region", 0, mask(place));
        }
        is(0, "covers", mask(8, 13), mask(1, 13), -1);
        yes("region", 0, mask(14) - 1);
        for (int place = 0; place < 14; place++) {
            is(place == 1 ? 1 : 0, "covers", mask(8, place), mask(1, place), -1);
        }
        yes("region", 0, 0);
        is(1, "covers", mask(14) - 1, mask(14) - 1 - mask(8), -1);
        is(1, "covers", mask(2, 3, 4, 5, 6, 7, 8, 13), mask(1, 2, 3, 4, 5, 6, 7, 13), -1);
    }

    private void promise4Guard() {
        sentence("promise 4: false when a case is on");
        yes("task", 0, ALL, ONE, mask(0), mask(1, 2));
        yes("guard", 0, 1, 0, 5, 5);
        yes("launch");
        no("guard", 0, 1, 0, 0, 9);
        no("guard", 0, 2, 1, 0, 9);
        ended(0, 1, 4);
        no("guard", 0, 1, 0, 0, 9);
        marked(2);
        yes("cancel");
        yes("guard", 0, 1, 0, 0, 9);
        yes("launch");
        ended(0, 2, 4);
        marked(1);

        sentence("promise 4: false when the task is not defined");
        yes("task", 1, ALL, ONE, mask(0), mask(1, 2));
        no("guard", 0, 1, 0, 5, 5);
        no("guard", 2, 1, 0, 5, 5);
        for (int t : NO_TASKS) {
            no("guard", t, 1, 0, 5, 5);
        }
        yes("task", 0, ALL, ONE, mask(0), mask(1, 2));
        yes("launch");
        ended(0, 1, 4);
        marked(1);

        sentence("promise 4: false when c is none of its outputs");
        yes("task", 0, ALL, ONE, mask(0), mask(1, 3, 7));
        int[] none = {-1, 0, 2, 4, 5, 6, 8, 9, 31, 32, 33, 35, 39, -31, LEAST, LEAST + 1, GREATEST};
        for (int c : none) {
            no("guard", 0, c, 0, 100, 100);
        }
        yes("guard", 0, 1, 0, 5, 5);
        yes("guard", 0, 3, 0, 4, 4);
        yes("guard", 0, 7, 0, 3, 3);
        for (int c : none) {
            no("guard", 0, c, 0, LEAST, GREATEST);
        }
        yes("launch");
        ended(0, 1, 4);
        marked(3);

        sentence("promise 4: the outputs 0 and 7 have guards, too");
        yes("task", 0, ALL, ONE, mask(0), mask(0, 7));
        yes("guard", 0, 0, 0, 5, 5);
        yes("guard", 0, 7, 0, 4, 4);
        yes("launch");
        ended(0, 1, 5);
        marked(0);
        ended(0, 2, 4);
        marked(7);

        sentence("promise 4: an input that is no output has no guard");
        yes("task", 0, ALL, ONE, mask(0, 2), mask(2, 3));
        no("guard", 0, 0, 0, 5, 5);
        yes("guard", 0, 2, 0, 5, 5);

        sentence("promise 4: false when variable is not 0 .. 3");
        yes("task", 0, ALL, ONE, mask(0), mask(1, 2));
        yes("guard", 0, 1, 1, 5, 5);
        for (int v : NO_VARIABLES) {
            no("guard", 0, 1, v, LEAST, GREATEST);
        }
        yes("launch");
        ended(0, 1, 0);
        marked(2);
        yes("cancel");
        yes("guard", 0, 1, 0, 0, 0);
        yes("launch");
        ended(0, 2, 0);
        marked(1);
        yes("cancel");
        yes("guard", 0, 1, 3, 5, 5);
        yes("launch");
        ended(0, 3, 0);
        marked(2);

        sentence("promise 4: any two numbers make a guard");
        yes("task", 0, ALL, ONE, mask(0), mask(1, 2));
        yes("guard", 0, 1, 0, LEAST, GREATEST);
        yes("guard", 0, 1, 0, GREATEST, LEAST);
        yes("guard", 0, 1, 0, GREATEST, GREATEST);
        yes("launch");
        ended(0, 1, GREATEST);
        marked(1);
    }

    private void promise5Items() {
        sentence("promise 5: a number that is not as said leaves the others as they are, too");
        fullyToldTask();
        no("items", 0, 5, 1, 0, 1);
        no("items", 0, 0, 1, 0, 1);
        no("items", 0, 4, 5, 0, 1);
        no("items", 0, 4, 0, 0, 1);
        no("items", 0, 4, 1, 4, 1);
        no("items", 0, 4, 1, -1, 1);
        no("items", 0, 4, 1, 0, 101);
        no("items", 0, 4, 1, 0, -1);
        yes("launch");
        is(1, "fire", 0);
        states(1, 1, 1, 1, -1);
        finished(0, 1, 9);
        is(9, "variable", 1);
        is(4, "tick", 4);
        states(1, 3, 1, 1);
        finished(1, 2, 8);

        sentence("promise 5: number 1 .. 4");
        yes("task", 0, ALL, ALL, mask(0), mask(0));
        yes("items", 0, 3, 2, 1, 5);
        int[] wrong = {LEAST, -1, 0, 5, GREATEST};
        for (int number : wrong) {
            no("items", 0, number, 1, 0, 1);
        }
        int first = 1;
        for (int number = 1; number <= 4; number++) {
            yes("items", 0, number, 1, 0, 0);
            yes("launch");
            is(first, "fire", 0);
            is(1, "item", first + number - 1, 1);
            bad("item", first + number, 1);
            yes("cancel");
            first += number;
        }

        sentence("promise 5: threshold 1 .. number");
        yes("task", 0, ALL, ALL, mask(0), mask(0));
        for (int number = 1; number <= 4; number++) {
            no("items", 0, number, LEAST, 0, 0);
            no("items", 0, number, -1, 0, 0);
            no("items", 0, number, 0, 0, 0);
            yes("items", 0, number, 1, 0, 0);
            yes("items", 0, number, number, 0, 0);
            no("items", 0, number, number + 1, 0, 0);
            no("items", 0, number, GREATEST, 0, 0);
        }
        no("items", 0, 0, 0, 0, 0);
        no("items", 0, 5, 5, 0, 0);
        yes("launch");
        is(1, "fire", 0);
        for (int id = 1; id <= 3; id++) {
            finished(0, id, 0);
        }
        finished(1, 4, 0);

        sentence("promise 5: variable 0 .. 3");
        yes("task", 0, ALL, ALL, mask(0), mask(0));
        yes("items", 0, 1, 1, 2, 0);
        for (int v : NO_VARIABLES) {
            no("items", 0, 2, 2, v, 1);
        }
        yes("launch");
        ended(0, 1, 5);
        is(5, "variable", 2);
        yes("cancel");
        yes("items", 0, 1, 1, 0, 0);
        yes("launch");
        ended(0, 2, 6);
        is(6, "variable", 0);
        yes("cancel");
        yes("items", 0, 1, 1, 3, 0);
        yes("launch");
        ended(0, 3, 7);
        is(7, "variable", 3);

        sentence("promise 5: deadline 0 .. 100");
        yes("task", 0, ALL, ALL, mask(0), mask(0));
        yes("items", 0, 1, 1, 0, 5);
        int[] deadlines = {LEAST, -1, 101, GREATEST};
        for (int deadline : deadlines) {
            no("items", 0, 2, 2, 1, deadline);
        }
        yes("launch");
        is(1, "fire", 0);
        is(4, "tick", 4);
        states(1, 1, -1);
        is(5, "tick", 1);
        states(1, 4);
        yes("cancel");
        yes("items", 0, 1, 1, 0, 100);
        yes("launch");
        is(2, "fire", 0);
        is(104, "tick", 99);
        states(2, 1);
        is(105, "tick", 1);
        states(2, 4);
        yes("cancel");
        yes("items", 0, 1, 1, 0, 0);
        yes("launch");
        is(3, "fire", 0);
        is(205, "tick", 100);
        is(305, "tick", 100);
        states(3, 1);
    }

    private void promise5ItemsRefused() {
        sentence("promise 5: false when a case is on");
        yes("task", 0, ALL, ALL, mask(0), mask(0));
        yes("items", 0, 2, 2, 1, 5);
        yes("launch");
        no("items", 0, 1, 1, 0, 0);
        is(1, "fire", 0);
        no("items", 0, 1, 1, 0, 0);
        no("items", 0, 4, 1, 0, 1);
        states(1, 1, 1, -1);
        finished(0, 1, 3);
        is(3, "variable", 1);
        is(4, "tick", 4);
        marked(8);
        finished(1, 2, 4);
        yes("cancel");
        yes("items", 0, 1, 1, 0, 0);
        yes("launch");
        ended(0, 3, 5);
        is(5, "variable", 0);

        sentence("promise 5: false when the task is not defined");
        yes("task", 1, ALL, ALL, mask(0), mask(0));
        no("items", 0, 2, 2, 1, 5);
        no("items", 2, 2, 2, 1, 5);
        for (int t : NO_TASKS) {
            no("items", t, 2, 2, 1, 5);
        }
        yes("items", 1, 3, 2, 1, 6);
        yes("task", 0, ALL, ALL, mask(0), mask(0));
        yes("launch");
        ended(0, 1, 4);
        is(4, "variable", 0);
    }

    private void promise6Launch() {
        sentence("promise 6: the START is marked, no other condition, no task runs");
        yes("task", 0, ALL, ALL, mask(0), mask(1, 2, 3));
        yes("task", 1, ALL, ALL, mask(2), mask(4));
        yes("launch");
        marked(0);
        ended(0, 1, 0);
        is(2, "fire", 1);
        marked(1, 3, 9);
        yes("cancel");
        yes("launch");
        marked(0);
        enabled(0);

        sentence("promise 6: false when one is on");
        yes("task", 0, ALL, ALL, mask(0), mask(1, 2));
        yes("task", 1, ALL, ALL, mask(2), mask(3));
        yes("launch");
        no("launch");
        marked(0);
        is(1, "fire", 0);
        no("launch");
        marked(8);
        finished(1, 1, 0);
        no("launch");
        marked(1, 2);
        is(2, "fire", 1);
        no("launch");
        marked(1, 9);
        finished(1, 2, 0);
        no("launch");

        sentence("promise 6: false when one is on, though only the END is marked, or nothing at all");
        yes("task", 0, ALL, ALL, mask(0), mask(1));
        yes("launch");
        ended(0, 1, 0);
        marked(1);
        enabled();
        no("launch");
        marked(1);
        yes("cancel");
        yes("launch");
        is(2, "fire", 0);
        is(1, "fail", 2);
        marked();
        no("launch");
        marked();
        yes("cancel");
        yes("launch");

        sentence("promise 6: false when no task is defined");
        no("launch");
        marked();
        no("cancel");
        yes("task", 5, ALL, ALL, mask(2), mask(3));
        yes("launch");
        marked(0);
    }

    private void promise7Cancel() {
        sentence("promise 7: false when none is on");
        no("cancel");
        yes("task", 0, ALL, ALL, mask(0), mask(1));
        no("cancel");
        yes("launch");
        yes("cancel");
        no("cancel");
        marked();
        yes("launch");
        ended(0, 1, 0);
        yes("cancel");
        no("cancel");
        states(1, 3);

        sentence("promise 7: tasks that run stop, no condition is marked");
        yes("task", 0, ALL, ALL, mask(0), mask(1, 2, 7));
        yes("task", 5, ALL, ALL, mask(2), mask(3));
        yes("items", 5, 4, 4, 0, 0);
        yes("launch");
        ended(0, 1, 0);
        is(2, "fire", 5);
        is(0, "start", 3);
        finished(0, 4, 0);
        is(0, "fail", 5);
        marked(1, 7, 13);
        yes("cancel");
        marked();
        enabled();
        states(1, 3, 5, 5, 3, 4);
        yes("task", 0, ALL, ALL, mask(0), mask(1));

        sentence("promise 7: variables, clock and items stay when a case is cancelled and launched");
        yes("task", 0, ALL, ALL, mask(0), mask(1));
        yes("launch");
        is(8, "tick", 8);
        ended(0, 1, 5);
        yes("set", 3, 6);
        yes("cancel");
        yes("launch");
        is(5, "variable", 0);
        is(6, "variable", 3);
        is(8, "tick", 0);
        is(2, "fire", 0);
        is(8, "item", 1, 2);
    }

    private void promise8Enabled() {
        sentence("promise 8: the mask of the tasks that are enabled, from none to all six");
        enabled();
        for (int t = 0; t < 6; t++) {
            yes("task", t, t % 3, ALL, mask(0), mask(0));
        }
        enabled();
        yes("launch");
        enabled(0, 1, 2, 3, 4, 5);
        is(1, "fire", 5);
        enabled();
        finished(1, 1, 0);
        enabled(0, 1, 2, 3, 4, 5);
        yes("cancel");
        enabled();
    }

    private void promise9Fire() {
        sentence("promise 9: BAD when there is no such task");
        yes("task", 0, ALL, ALL, mask(0), mask(1));
        for (int t : NO_TASKS) {
            bad("fire", t);
        }
        yes("launch");
        for (int t : NO_TASKS) {
            bad("fire", t);
        }
        marked(0);
        is(1, "fire", 0);

        sentence("promise 9: BAD when it isn't defined");
        for (int t = 0; t < 6; t++) {
            bad("fire", t);
        }
        yes("task", 3, ALL, ALL, mask(0), mask(1));
        yes("launch");
        bad("fire", 2);
        bad("fire", 4);
        marked(0);
        is(1, "fire", 3);

        sentence("promise 9: NOT_SO when it isn't enabled");
        yes("task", 0, ALL, ALL, mask(0), mask(2));
        yes("task", 1, ALL, ALL, mask(2, 3), mask(1));
        yes("task", 2, ONE, ALL, mask(3, 4), mask(1));
        notSo("fire", 0);
        yes("launch");
        notSo("fire", 1);
        notSo("fire", 2);
        is(1, "fire", 0);
        notSo("fire", 0);
        marked(8);
        finished(1, 1, 0);
        notSo("fire", 0);
        notSo("fire", 1);
        bad("item", 2, 0);
        marked(2);
        yes("cancel");
        notSo("fire", 0);
    }

    /** A task of these items at a time (of which it needs one), again and again, until so many are made. */
    private void makeItems(int t, int number, int from, int to) {
        for (int first = from; first <= to; first += number) {
            ended(t, first, 0);
        }
    }

    private void promise9FireUntilFull() {
        sentence("promise 9: FULL when there would be more than 60 items, one at a time");
        loopOfItems(0, 4);
        loopOfItems(1, 3);
        loopOfItems(2, 2);
        loopOfItems(3, 1);
        yes("task", 4, ALL, ALL, mask(2), mask(2));
        yes("launch");
        makeItems(0, 4, 1, 56);
        is(57, "fire", 3);
        refused(NOT_SO, "fire", 0);
        finished(1, 57, 0);
        refused(FULL, "fire", 0);
        is(58, "fire", 3);
        finished(1, 58, 0);
        refused(FULL, "fire", 0);
        refused(FULL, "fire", 1);
        is(59, "fire", 3);
        finished(1, 59, 0);
        refused(FULL, "fire", 2);
        marked(0);
        enabled(0, 1, 2, 3);
        bad("item", 60, 1);
        bad("fire", 5);
        notSo("fire", 4);
        is(60, "fire", 3);
        states(60, 1, -1);
        finished(1, 60, 0);
        refused(FULL, "fire", 3);
        marked(0);
        bad("start", 61);
        yes("cancel");
        notSo("fire", 3);
        yes("launch");
        refused(FULL, "fire", 3);

        sentence("promise 9: 60 items, four at a time");
        loopOfItems(0, 4);
        yes("launch");
        makeItems(0, 4, 1, 56);
        is(57, "fire", 0);
        states(57, 1, 1, 1, 1, -1);
        finished(1, 60, 0);
        refused(FULL, "fire", 0);

        sentence("promise 9: 57 items and four more would be 61");
        loopOfItems(0, 4);
        loopOfItems(1, 3);
        loopOfItems(3, 1);
        yes("launch");
        makeItems(0, 4, 1, 56);
        ended(3, 57, 0);
        refused(FULL, "fire", 0);
        is(58, "fire", 1);
        states(58, 1, 1, 1, -1);
    }

    private void loopOfItems(int t, int number) {
        yes("task", t, ALL, ALL, mask(0), mask(0));
        yes("items", t, number, 1, 0, 0);
    }

    /** Item 1 is offered, 2 started, 3 completed, 4 failed, 5 withdrawn. */
    private void fiveStates() {
        yes("task", 0, ALL, ALL, mask(0), mask(2, 3));
        yes("task", 1, ALL, ALL, mask(2), mask(4));
        yes("items", 1, 4, 4, 1, 0);
        yes("task", 2, ALL, ALL, mask(3), mask(5));
        yes("items", 2, 2, 1, 2, 0);
        yes("launch");
        ended(0, 1, 0);
        is(2, "fire", 1);
        is(0, "start", 3);
        finished(0, 4, 11);
        is(0, "fail", 5);
        is(6, "fire", 2);
        finished(1, 7, 12);
        states(2, 1, 2, 3, 4, 5, 3, -1);
    }

    private void noItems(String name, int... more) {
        int[] none = {0, -1, 8, 9, 60, 61, 62, LEAST, GREATEST};
        for (int id : none) {
            int[] args = new int[1 + more.length];
            args[0] = id;
            System.arraycopy(more, 0, args, 1, more.length);
            bad(name, args);
        }
    }

    private void promise10Start() {
        sentence("promise 10: BAD when there is no such item");
        fiveStates();
        noItems("start");
        states(2, 1, 2, 3, 4, 5, 3, -1);

        sentence("promise 10: NOT_SO when it isn't offered");
        fiveStates();
        notSo("start", 3);
        notSo("start", 4);
        notSo("start", 5);
        notSo("start", 6);
        states(2, 1, 2, 3, 4, 5, 3);
        is(0, "start", 2);
        states(2, 2, 2, 3, 4, 5, 3);
        notSo("start", 2);
    }

    private void promise11Finish() {
        sentence("promise 11: BAD");
        fiveStates();
        noItems("finish", 9);
        is(0, "variable", 0);
        is(11, "variable", 1);
        is(12, "variable", 2);

        sentence("promise 11: NOT_SO when it isn't started: the variable stays");
        fiveStates();
        notSo("finish", 2, 9);
        notSo("finish", 4, 9);
        notSo("finish", 5, 9);
        notSo("finish", 6, 9);
        states(2, 1, 2, 3, 4, 5, 3);
        is(0, "variable", 0);
        is(11, "variable", 1);
        is(12, "variable", 2);
        is(0, "finish", 3, 9);
        is(9, "variable", 1);
        notSo("finish", 3, 8);
        is(9, "variable", 1);
        states(2, 1, 3, 3, 4, 5, 3);

        sentence("promise 11: the variable gets any value");
        yes("task", 0, ALL, ALL, mask(0), mask(0));
        yes("items", 0, 1, 1, 3, 0);
        yes("launch");
        int[] values = {LEAST, -1, 0, 1, GREATEST};
        for (int i = 0; i < values.length; i++) {
            ended(0, i + 1, values[i]);
            is(values[i], "variable", 3);
        }

        sentence("promise 11: 0, or 1 when its task ended by it");
        yes("task", 0, ALL, ALL, mask(0), mask(0));
        yes("items", 0, 3, 2, 0, 0);
        yes("launch");
        is(1, "fire", 0);
        finished(0, 1, 0);
        finished(1, 3, 0);
        is(4, "fire", 0);
        is(0, "fail", 4);
        is(0, "fail", 5);
        // The task stops by this one: it did not end.
        finished(0, 6, 0);
        marked();
    }

    private void promise12Fail() {
        sentence("promise 12: BAD");
        fiveStates();
        noItems("fail");
        states(2, 1, 2, 3, 4, 5, 3, -1);

        sentence("promise 12: NOT_SO when it isn't open");
        fiveStates();
        notSo("fail", 4);
        notSo("fail", 5);
        notSo("fail", 6);
        notSo("fail", 7);
        states(2, 1, 2, 3, 4, 5, 3);
        marked(5, 9);
        is(0, "fail", 2);
        notSo("fail", 2);
        states(2, 4, 2, 3, 4, 5, 3);
        is(1, "fail", 3);
        states(2, 4, 4, 3, 4, 5, 3);
        marked(5);
        notSo("fail", 3);

        sentence("promise 12: 0, or 1 when its task stopped by it");
        yes("task", 0, ALL, ALL, mask(0), mask(0));
        yes("items", 0, 4, 4, 0, 0);
        yes("launch");
        is(1, "fire", 0);
        is(0, "fail", 4);
        is(0, "start", 1);
        is(0, "fail", 1);
        is(0, "fail", 2);
        marked(8);
        is(1, "fail", 3);
        marked();
    }

    private void promise13Tick() {
        sentence("promise 13: the clock goes on by n when n is 0 .. 100, otherwise it stays");
        is(0, "tick", 0);
        is(0, "tick", -1);
        is(0, "tick", 101);
        is(1, "tick", 1);
        is(101, "tick", 100);
        is(101, "tick", 101);
        is(101, "tick", -1);
        is(101, "tick", LEAST);
        is(101, "tick", GREATEST);
        is(200, "tick", 99);
        is(200, "tick", 0);

        sentence("promise 13: the clock goes on whether a case is on or not");
        is(3, "tick", 3);
        yes("task", 0, ALL, ALL, mask(0), mask(1));
        is(5, "tick", 2);
        yes("launch");
        is(9, "tick", 4);
        is(1, "fire", 0);
        is(9, "item", 1, 2);
        yes("cancel");
        is(10, "tick", 1);
        is(9, "item", 1, 2);

        sentence("promise 13: the clock after as many ticks as an object can be given, nearly");
        yes("task", 0, ALL, ALL, mask(0), mask(1));
        yes("items", 0, 1, 1, 0, 100);
        yes("launch");
        for (int hundred = 1; hundred <= 500; hundred++) {
            is(100 * hundred, "tick", 100);
        }
        is(1, "fire", 0);
        is(50000, "item", 1, 2);
        is(50099, "tick", 99);
        states(1, 1);
        is(50100, "tick", 1);
        states(1, 4);

        sentence("promise 13: an n that does not count brings no deadline nearer");
        yes("task", 0, ALL, ALL, mask(0), mask(1));
        yes("items", 0, 1, 1, 0, 1);
        yes("launch");
        is(1, "fire", 0);
        is(0, "tick", 0);
        is(0, "tick", -1);
        is(0, "tick", 101);
        states(1, 1);
        is(1, "tick", 1);
        states(1, 4);
    }

    private void promise13TickFails() {
        sentence("promise 13: an item that was offered so many ticks ago, or more, is failed");
        yes("task", 0, ALL, ALL, mask(0), mask(0));
        yes("items", 0, 1, 1, 0, 10);
        is(50, "tick", 50);
        yes("launch");
        is(1, "fire", 0);
        is(59, "tick", 9);
        states(1, 1);
        marked(8);
        is(60, "tick", 1);
        states(1, 4);
        marked();
        yes("cancel");
        yes("launch");
        is(2, "fire", 0);
        is(69, "tick", 9);
        is(71, "tick", 2);
        states(2, 4);
        yes("cancel");
        yes("launch");
        is(3, "fire", 0);
        is(171, "tick", 100);
        states(3, 4);

        sentence("promise 13: each open item, offered or started, and no other");
        yes("task", 0, ALL, ALL, mask(0), mask(2, 3, 4));
        yes("task", 1, ALL, ALL, mask(2), mask(5));
        yes("items", 1, 4, 4, 0, 3);
        yes("task", 2, ALL, ALL, mask(3), mask(6));
        yes("items", 2, 2, 1, 0, 3);
        yes("launch");
        ended(0, 1, 0);
        is(2, "fire", 1);
        is(0, "start", 3);
        finished(0, 4, 0);
        is(0, "fail", 5);
        is(6, "fire", 2);
        finished(1, 6, 0);
        states(2, 1, 2, 3, 4, 3, 5);
        is(2, "tick", 2);
        states(2, 1, 2, 3, 4, 3, 5);
        marked(4, 6, 9);
        is(3, "tick", 1);
        states(2, 4, 4, 3, 4, 3, 5);
        marked(4, 6);

        sentence("promise 13: of a task with a deadline, counted for each item from when it was offered");
        yes("task", 0, ALL, ALL, mask(0), mask(2, 3, 4));
        yes("task", 1, ALL, ALL, mask(2), mask(5));
        yes("items", 1, 1, 1, 0, 4);
        yes("task", 2, ALL, ALL, mask(3), mask(6));
        yes("task", 3, ALL, ALL, mask(4), mask(7));
        yes("items", 3, 2, 1, 0, 4);
        yes("launch");
        ended(0, 1, 0);
        is(2, "fire", 1);
        is(3, "fire", 2);
        is(1, "tick", 1);
        is(4, "fire", 3);
        is(4, "tick", 3);
        states(2, 4, 1, 1, 1);
        marked(10, 11);
        is(5, "tick", 1);
        states(2, 4, 1, 4, 4);
        marked(10);
        is(105, "tick", 100);
        states(3, 1);

        sentence("promise 13: the deadlines 1 and 100");
        yes("task", 0, ALL, ALL, mask(0), mask(2, 3));
        yes("task", 1, ALL, ALL, mask(2), mask(5));
        yes("items", 1, 1, 1, 0, 1);
        yes("task", 2, ALL, ALL, mask(3), mask(6));
        yes("items", 2, 1, 1, 0, 100);
        yes("launch");
        ended(0, 1, 0);
        is(2, "fire", 1);
        is(3, "fire", 2);
        is(0, "tick", 0);
        states(2, 1, 1);
        is(1, "tick", 1);
        states(2, 4, 1);
        is(99, "tick", 98);
        states(2, 4, 1);
        is(100, "tick", 1);
        states(2, 4, 4);
    }

    private void promises14And15Variables() {
        sentence("promise 14: false when there is no such variable");
        for (int v = 0; v <= 3; v++) {
            yes("set", v, 10 + v);
        }
        for (int v : NO_VARIABLES) {
            no("set", v, 99);
        }
        for (int v = 0; v <= 3; v++) {
            is(10 + v, "variable", v);
        }

        sentence("promise 14: the variable gets a value, any, whether a case is on or not");
        yes("set", 0, LEAST);
        is(LEAST, "variable", 0);
        yes("set", 3, GREATEST);
        is(GREATEST, "variable", 3);
        yes("task", 0, ALL, ALL, mask(0), mask(1));
        yes("launch");
        yes("set", 3, -1);
        is(-1, "variable", 3);
        yes("set", 0, 0);
        is(0, "variable", 0);
        yes("cancel");
        is(-1, "variable", 3);
        yes("set", 3, 8);
        is(8, "variable", 3);

        sentence("promise 15: 0 when there is none such");
        for (int v = 0; v <= 3; v++) {
            yes("set", v, 10 + v);
        }
        for (int v : NO_VARIABLES) {
            is(0, "variable", v);
        }
        is(10, "variable", 0);
        is(13, "variable", 3);
    }

    private void promise16Marking() {
        sentence("promise 16: the present mask of places, none when no case is on");
        marked();
        yes("task", 5, ALL, ALL, mask(0), mask(0, 1, 7));
        marked();
        yes("launch");
        marked(0);
        is(1, "fire", 5);
        marked(13);
        finished(1, 1, 0);
        marked(0, 1, 7);
        is(2, "fire", 5);
        marked(1, 7, 13);
        yes("cancel");
        marked();
    }

    private void promise17Item() {
        sentence("promise 17: BAD when there is no such item");
        fiveStates();
        for (int what = 0; what <= 2; what++) {
            noItems("item", what);
            is(new int[] {0, 3, 0}[what], "item", 1, what);
            is(new int[] {2, 3, 0}[what], "item", 7, what);
        }

        sentence("promise 17: BAD when what is not 0 .. 2");
        fiveStates();
        int[] wrong = {-1, 3, 4, 32, LEAST, GREATEST};
        for (int what : wrong) {
            bad("item", 1, what);
            bad("item", 7, what);
            bad("item", 8, what);
        }
        is(2, "item", 7, 0);
        is(3, "item", 7, 1);
        is(0, "item", 7, 2);

        sentence("promise 17: its task, its state and the clock when it was offered, of the first and the last");
        yes("task", 5, ALL, ALL, mask(0), mask(0));
        yes("items", 5, 4, 1, 0, 0);
        yes("launch");
        makeItems(5, 4, 1, 56);
        is(7, "tick", 7);
        is(57, "fire", 5);
        is(9, "tick", 2);
        is(5, "item", 1, 0);
        is(3, "item", 1, 1);
        is(0, "item", 1, 2);
        is(5, "item", 60, 0);
        is(1, "item", 60, 1);
        is(7, "item", 60, 2);
        bad("item", 61, 0);
    }

    private void promise18Covers() {
        sentence("promise 18: BAD when from is no mask of places");
        yes("task", 0, ALL, ALL, mask(0), mask(1));
        for (int from : NO_PLACES) {
            bad("covers", from, 0, -1);
            bad("covers", from, mask(0), -1);
        }
        for (int bit = 14; bit < 32; bit++) {
            bad("covers", mask(bit), 0, -1);
        }
        is(1, "covers", mask(14) - 1, mask(14) - 1, -1);
        is(1, "covers", 0, 0, -1);

        sentence("promise 18: BAD when target is no mask of places");
        yes("task", 0, ALL, ALL, mask(0), mask(1));
        for (int target : NO_PLACES) {
            bad("covers", 0, target, -1);
            bad("covers", mask(14) - 1, target, -1);
        }
        for (int bit = 14; bit < 32; bit++) {
            bad("covers", mask(14) - 1, mask(bit), -1);
        }
        is(0, "covers", mask(14) - 1 - mask(13), mask(14) - 1, -1);

        sentence("promise 18: BAD when without is not -1 .. 5");
        yes("task", 0, ALL, ALL, mask(0), mask(2));
        yes("task", 5, ALL, ALL, mask(0), mask(2));
        int[] wrong = {-2, 6, 7, 32, LEAST, GREATEST};
        for (int without : wrong) {
            bad("covers", mask(0), mask(0), without);
            bad("covers", mask(0), mask(2), without);
        }
        for (int without = -1; without <= 5; without++) {
            is(1, "covers", mask(0), mask(2), without);
        }

        sentence("promise 18: by moves of the defined tasks but one, without -1: of all");
        for (int t = 0; t < 6; t++) {
            yes("task", t, ALL, ALL, mask(0), mask(t + 2 > 7 ? 1 : t + 2));
        }
        for (int t = 0; t < 6; t++) {
            int output = t + 2 > 7 ? 1 : t + 2;
            is(1, "covers", mask(0), mask(output), -1);
            for (int without = 0; without <= 5; without++) {
                is(without == t ? 0 : 1, "covers", mask(0), mask(output), without);
            }
        }

        sentence("promise 18: a task that is not defined makes no move, and may be left out");
        yes("task", 2, ALL, ALL, mask(0), mask(1));
        is(1, "covers", mask(0), mask(1), 0);
        is(0, "covers", mask(0), mask(1), 2);
        is(0, "covers", mask(8, 9, 11, 12, 13), mask(1), -1);

        sentence("promise 18: from the mask that is told, whatever is marked, and nothing changes");
        yes("task", 0, ALL, ALL, mask(0), mask(1));
        is(1, "covers", mask(0), mask(1), -1);
        yes("launch");
        ended(0, 1, 0);
        is(1, "covers", mask(0), mask(8), -1);
        is(0, "covers", mask(2), mask(1), -1);
        marked(1);
        enabled();
    }

    private void promise19Verdict() {
        sentence("promise 19: the verdict, from the least to the greatest");
        is(-1, "verdict");
        yes("task", 0, ALL, ALL, mask(0), mask(1, 2));
        yes("task", 1, ALL, ALL, mask(1), mask(3));
        yes("task", 2, ALL, ALL, mask(4), mask(3));
        is(0, "verdict");
        yes("task", 1, ALL, ALL, mask(4), mask(3));
        is(1, "verdict");
        yes("task", 0, ALL, ALL, mask(0), mask(2));
        is(2, "verdict");
        yes("task", 0, ALL, ALL, mask(0), mask(1));
        is(3, "verdict");
        yes("task", 0, ALL, ALL, mask(0), mask(1, 2));
        yes("task", 1, ALL, ALL, mask(1), mask(3));
        yes("task", 2, ALL, ALL, mask(3), mask(4));
        is(4, "verdict");
        yes("task", 2, ALL, ALL, mask(3), mask(1));
        is(5, "verdict");
        yes("task", 0, ALL, ALL, mask(0), mask(2));
        yes("task", 1, ALL, ALL, mask(2), mask(3));
        yes("task", 2, ALL, ALL, mask(3), mask(4));
        is(6, "verdict");
        yes("task", 2, ALL, ALL, mask(3), mask(1));
        is(7, "verdict");
        yes("task", 3, SOME, ALL, mask(3), mask(1));
        is(-1, "verdict");
    }
}
