/** The sentences under "What it is" and "Terms" that name a boundary case, one after the other. */
public final class BoundaryTermsTest extends Sentences {
    public static void main(String[] args) {
        BoundaryTermsTest test = new BoundaryTermsTest();
        test.numbers();
        test.inputsAndOutputs();
        test.atFirst();
        test.guards();
        test.moves();
        test.coveredOrNot();
        test.enabledAtAll();
        test.enabledByAllAndOne();
        test.enabledBySome();
        test.fired();
        test.endedByTheThreshold();
        test.clearedByTheEnd();
        test.outputsAreChosen();
        test.stopped();
        test.verdictIsNone();
        test.verdictOne();
        test.verdictTwo();
        test.verdictFour();
        test.endProgram();
    }

    private void numbers() {
        sentence("an object is used for at most 512 calls: the last of them is answered as the first");
        yes("task", 0, ALL, ALL, mask(0), mask(0));
        yes("items", 0, 4, 1, 0, 0);
        yes("launch");
        for (int call = 4; call <= 511; call++) {
            is(call - 3, "tick", 1);
        }
        is(1, "fire", 0);

        sentence("conditions are 0 .. 7");
        yes("task", 0, ALL, ALL, mask(0), mask(7));
        yes("task", 1, ALL, ALL, mask(7), mask(0));
        no("task", 0, ALL, ALL, mask(0), mask(8));
        no("task", 1, ALL, ALL, mask(8), mask(0));
        yes("launch");
        ended(0, 1, 0);
        marked(7);
        ended(1, 2, 0);
        marked(0);

        sentence("0 is the START, 1 the END");
        yes("task", 0, ALL, ALL, mask(0), mask(1));
        is(7, "verdict");
        yes("task", 0, ALL, ALL, mask(0), mask(2));
        is(2 + 4, "verdict");
        yes("task", 0, ALL, ALL, mask(1), mask(2));
        is(2, "verdict");
        yes("launch");
        marked(0);

        sentence("a condition is marked or not: put twice, it is taken once");
        yes("task", 0, ALL, ALL, mask(0), mask(2, 3));
        yes("task", 1, ALL, ALL, mask(2), mask(4));
        yes("task", 2, ALL, ALL, mask(3), mask(4));
        yes("task", 3, ALL, ALL, mask(4), mask(5));
        yes("launch");
        ended(0, 1, 0);
        ended(1, 2, 0);
        marked(3, 4);
        ended(2, 3, 0);
        marked(4);
        ended(3, 4, 0);
        marked(5);
        notSo("fire", 3);

        sentence("tasks are 0 .. 5, their places 8 .. 13");
        no("task", -1, ALL, ALL, mask(0), mask(0));
        yes("task", 0, ALL, ALL, mask(0), mask(0));
        yes("task", 5, ALL, ALL, mask(0), mask(0));
        no("task", 6, ALL, ALL, mask(0), mask(0));
        yes("launch");
        enabled(0, 5);
        is(1, "fire", 0);
        marked(8);
        finished(1, 1, 0);
        is(2, "fire", 5);
        marked(13);
    }

    private void inputsAndOutputs() {
        sentence("a defined task has 1 to 3 inputs: of all masks of conditions, those");
        for (int ins = 0; ins < 256; ins++) {
            boolean right = Integer.bitCount(ins) >= 1 && Integer.bitCount(ins) <= 3;
            definition(right, ins, mask(1));
        }

        sentence("a defined task has 1 to 3 outputs: of all masks of conditions, those");
        for (int outs = 0; outs < 256; outs++) {
            boolean right = Integer.bitCount(outs) >= 1 && Integer.bitCount(outs) <= 3;
            definition(right, mask(0), outs);
        }

        sentence("only the bits 0 .. 7 of a mask of conditions may be set");
        definition(true, mask(0), mask(1));
        for (int bit = 8; bit < 32; bit++) {
            definition(false, mask(bit), mask(2));
            definition(false, mask(0, bit), mask(2));
            definition(false, mask(2), mask(bit));
            definition(false, mask(2), mask(1, bit));
        }

        sentence("a condition may be both input and output");
        yes("task", 0, ALL, ALL, mask(0, 2), mask(0, 2));
        yes("task", 1, ONE, ALL, mask(0), mask(0, 2));
        yes("launch");
        ended(1, 1, 0);
        marked(0, 2);
        is(2, "fire", 0);
        marked(8);
        finished(1, 2, 0);
        marked(0, 2);

        sentence("a join and a split are 0, 1 or 2");
        for (int kind = -1; kind <= 3; kind++) {
            for (int other = 0; other <= 2; other++) {
                boolean right = kind >= 0 && kind <= 2;
                defined(right, kind, other);
                defined(right, other, kind);
            }
        }
        defined(false, LEAST, ALL);
        defined(false, GREATEST, ALL);
        defined(false, ALL, LEAST);
        defined(false, ALL, GREATEST);
    }

    private void definition(boolean right, int ins, int outs) {
        if (right) {
            yes("task", 0, ALL, ALL, ins, outs);
        } else {
            no("task", 0, ALL, ALL, ins, outs);
        }
    }

    private void defined(boolean right, int join, int split) {
        if (right) {
            yes("task", 0, join, split, mask(0), mask(1, 2));
        } else {
            no("task", 0, join, split, mask(0, 3), mask(3));
        }
    }

    private void atFirst() {
        sentence("a region, at first none");
        yes("task", 0, ALL, ALL, mask(0), mask(0, 2, 3));
        yes("task", 1, ALL, ALL, mask(2), mask(1));
        yes("launch");
        ended(0, 1, 0);
        is(2, "fire", 0);
        ended(1, 3, 0);
        marked(1, 3, 8);
        is(1, "covers", mask(2, 3, 8), mask(1, 3, 8), -1);

        sentence("a guard, at first variable 0, -2^31 and 2^31-1: it holds for every value");
        yes("task", 0, ALL, ONE, mask(0), mask(1, 2, 3));
        yes("task", 1, ALL, SOME, mask(0), mask(1, 2, 3));
        int[] values = {LEAST, LEAST + 1, -1, 0, 1, GREATEST - 1, GREATEST};
        int id = 1;
        for (int value : values) {
            id = outputsOf(0, id, value, 1);
            id = outputsOf(1, id, value, 1, 2, 3);
        }

        sentence("a number of items and a threshold, both 1 at first");
        yes("task", 0, ALL, ALL, mask(0), mask(1));
        yes("launch");
        is(1, "fire", 0);
        states(1, 1, -1);
        finished(1, 1, 0);
        marked(1);

        sentence("a variable, at first 0");
        yes("task", 0, ALL, ALL, mask(0), mask(1));
        yes("launch");
        ended(0, 1, 6);
        is(6, "variable", 0);
        for (int other = 1; other <= 3; other++) {
            is(0, "variable", other);
        }

        sentence("a deadline, at first 0: none");
        yes("task", 0, ALL, ALL, mask(0), mask(1));
        yes("launch");
        is(1, "fire", 0);
        is(0, "tick", 0);
        states(1, 1);
        is(1, "tick", 1);
        for (int hundred = 1; hundred <= 9; hundred++) {
            is(1 + 100 * hundred, "tick", 100);
        }
        states(1, 1);
        finished(1, 1, 0);
    }

    /** Runs one task of one item in a case of its own, and answers the next id. */
    private int outputsOf(int t, int id, int value, int... outputs) {
        yes("launch");
        ended(t, id, value);
        marked(outputs);
        yes("cancel");
        return id + 1;
    }

    private void guards() {
        sentence("a guard holds when the variable is not less than the first number");
        yes("task", 0, ALL, ONE, mask(0), mask(1, 2));
        yes("guard", 0, 1, 0, 3, GREATEST);
        outputsOf(0, 1, 2, 2);
        outputsOf(0, 2, 3, 1);
        outputsOf(0, 3, 4, 1);
        outputsOf(0, 4, LEAST, 2);
        outputsOf(0, 5, GREATEST, 1);

        sentence("a guard holds when the variable is not greater than the second number");
        yes("task", 0, ALL, ONE, mask(0), mask(1, 2));
        yes("guard", 0, 1, 0, LEAST, -3);
        outputsOf(0, 1, -4, 1);
        outputsOf(0, 2, -3, 1);
        outputsOf(0, 3, -2, 2);
        outputsOf(0, 4, LEAST, 1);
        outputsOf(0, 5, GREATEST, 2);

        sentence("a guard of two numbers that are the same holds for that one");
        yes("task", 0, ALL, ONE, mask(0), mask(1, 2));
        yes("guard", 0, 1, 0, GREATEST, GREATEST);
        outputsOf(0, 1, GREATEST - 1, 2);
        outputsOf(0, 2, GREATEST, 1);
        yes("guard", 0, 1, 0, LEAST, LEAST);
        outputsOf(0, 3, LEAST, 1);
        outputsOf(0, 4, LEAST + 1, 2);

        sentence("a guard whose first number is greater than its second one never holds");
        yes("task", 0, ALL, ONE, mask(0), mask(1, 2));
        yes("guard", 0, 1, 0, 5, 4);
        outputsOf(0, 1, 4, 2);
        outputsOf(0, 2, 5, 2);
        yes("guard", 0, 1, 0, GREATEST, LEAST);
        outputsOf(0, 3, LEAST, 2);
        outputsOf(0, 4, 0, 2);
        outputsOf(0, 5, GREATEST, 2);

        sentence("a guard looks at its own variable, 0 .. 3");
        yes("task", 0, ALL, ONE, mask(0), mask(1, 2));
        for (int variable = 0; variable <= 3; variable++) {
            yes("guard", 0, 1, variable, 7, 7);
            yes("items", 0, 1, 1, variable, 0);
            outputsOf(0, 2 * variable + 1, 7, 1);
            outputsOf(0, 2 * variable + 2, 6, 2);
        }
    }

    private void moves() {
        sentence("a move can be made when all places taken are marked");
        yes("task", 0, ALL, ALL, mask(2, 3, 4), mask(5));
        is(0, "covers", 0, mask(8), -1);
        is(0, "covers", mask(2), mask(8), -1);
        is(0, "covers", mask(2, 3), mask(8), -1);
        is(0, "covers", mask(2, 4), mask(8), -1);
        is(0, "covers", mask(3, 4), mask(8), -1);
        is(1, "covers", mask(2, 3, 4), mask(8), -1);
        is(0, "covers", mask(2, 3, 9), mask(5), -1);
        is(1, "covers", mask(8), mask(5), -1);

        sentence("those taken are not marked any more");
        yes("task", 0, ALL, ALL, mask(2, 3), mask(5));
        is(0, "covers", mask(2, 3), mask(2, 8), -1);
        is(0, "covers", mask(2, 3), mask(3, 8), -1);
        is(0, "covers", mask(8), mask(5, 8), -1);
        is(1, "covers", mask(2, 3, 4), mask(4, 8), -1);

        sentence("those cleared are not marked any more");
        yes("task", 0, ALL, ALL, mask(2), mask(5));
        yes("region", 0, mask(0, 7, 9, 13));
        is(0, "covers", mask(0, 8), mask(0, 5), -1);
        is(0, "covers", mask(7, 8), mask(5, 7), -1);
        is(0, "covers", mask(8, 9), mask(5, 9), -1);
        is(0, "covers", mask(8, 13), mask(5, 13), -1);
        is(1, "covers", mask(6, 8, 12), mask(5, 6, 12), -1);

        sentence("after that those put are marked");
        yes("task", 0, ALL, ALL, mask(2), mask(2, 5));
        yes("region", 0, mask(2, 5, 8));
        is(1, "covers", mask(2), mask(2, 5), -1);
        is(1, "covers", mask(8), mask(2, 5), -1);

        sentence("to begin with ALL takes all inputs, with ONE and SOME one; it clears none");
        yes("task", 0, ALL, ALL, mask(2, 3), mask(5));
        yes("region", 0, mask(3, 4));
        is(0, "covers", mask(2, 3), mask(3, 8), -1);
        is(1, "covers", mask(2, 3, 4), mask(4, 8), -1);
        for (int join = ONE; join <= SOME; join++) {
            yes("task", 0, join, ALL, mask(2, 3), mask(5));
            yes("region", 0, mask(3, 4));
            is(1, "covers", mask(2), mask(8), -1);
            is(1, "covers", mask(3), mask(8), -1);
            is(1, "covers", mask(2, 3, 4), mask(3, 4, 8), -1);
            is(1, "covers", mask(2, 3, 4), mask(2, 4, 8), -1);
            is(0, "covers", mask(2, 3, 4), mask(2, 3, 8), -1);
        }

        sentence("to end with ALL puts all outputs, with ONE one of them, with SOME a set that isn't empty");
        yes("task", 0, ALL, ALL, mask(0), mask(1, 2));
        is(1, "covers", mask(8), mask(1, 2), -1);
        is(1 + 4, "verdict");
        yes("task", 0, ALL, ONE, mask(0), mask(1, 2));
        is(0, "covers", mask(8), mask(1, 2), -1);
        is(1, "covers", mask(8), mask(1), -1);
        is(1, "covers", mask(8), mask(2), -1);
        is(2 + 4, "verdict");
        yes("task", 0, ALL, SOME, mask(0), mask(1, 2));
        is(1, "covers", mask(8), mask(1, 2), -1);
        is(4, "verdict");
        yes("task", 0, ALL, SOME, mask(0), mask(1));
        is(7, "verdict");
    }

    private void coveredOrNot() {
        sentence("covered by no move at all");
        is(1, "covers", 0, 0, -1);
        is(1, "covers", mask(3), 0, -1);
        is(1, "covers", mask(3, 13), mask(3, 13), -1);
        is(1, "covers", mask(3, 4, 13), mask(3, 13), -1);
        is(0, "covers", mask(3), mask(3, 13), -1);
        is(0, "covers", 0, mask(3), -1);

        sentence("covered by some moves, one after the other: a chain of all the tasks");
        for (int t = 0; t < 6; t++) {
            yes("task", t, ALL, ALL, mask(t), mask(t + 1));
        }
        is(1, "covers", mask(0), mask(6), -1);
        is(0, "covers", mask(0), mask(7), -1);
        is(0, "covers", mask(1), mask(0), -1);
        is(0, "covers", mask(0), mask(5, 6), -1);
        is(1, "covers", mask(0, 1), mask(5, 6), -1);

        sentence("covered when a mask is led to that has more bits than these");
        yes("task", 0, ALL, ALL, mask(0), mask(2, 3, 4));
        is(1, "covers", mask(0, 7), mask(3), -1);
        is(1, "covers", mask(0, 7), mask(2, 3, 4, 7), -1);
        is(0, "covers", mask(0, 7), mask(2, 3, 4, 5), -1);
    }

    private void enabledAtAll() {
        sentence("a task is enabled when the case is on");
        yes("task", 0, ALL, ALL, mask(0), mask(1));
        enabled();
        notSo("fire", 0);
        yes("launch");
        enabled(0);
        yes("cancel");
        enabled();
        notSo("fire", 0);

        sentence("a task is enabled when it is defined");
        yes("task", 1, ALL, ALL, mask(0), mask(1));
        yes("launch");
        enabled(1);
        bad("fire", 0);

        sentence("a task is enabled when it does not run");
        yes("task", 0, ALL, ALL, mask(0), mask(0, 2));
        yes("task", 1, ONE, ALL, mask(2), mask(3));
        yes("task", 2, SOME, ALL, mask(2), mask(3));
        yes("launch");
        ended(0, 1, 0);
        enabled(0, 1, 2);
        is(2, "fire", 1);
        ended(0, 3, 0);
        marked(0, 2, 9);
        enabled(0, 2);
        notSo("fire", 1);
        is(4, "fire", 2);
        ended(0, 5, 0);
        marked(0, 2, 9, 10);
        enabled(0);
        notSo("fire", 2);
        finished(1, 2, 0);
        enabled(0, 1);
        is(0, "start", 4);
        is(1, "fail", 4);
        enabled(0, 1, 2);
    }

    /** Task 0 marks those of 2, 3 and 4 whose variable, 1 .. 3, is 1; by the others it marks 7. */
    private void markSome(int id, int... conditions) {
        for (int c = 2; c <= 4; c++) {
            is(1, "set", c - 1, (mask(conditions) >> c) & 1);
        }
        yes("launch");
        ended(0, id, 0);
    }

    private void defineMarker() {
        yes("task", 0, ALL, SOME, mask(0), mask(2, 3, 4));
        for (int c = 2; c <= 4; c++) {
            yes("guard", 0, c, c - 1, 1, 1);
        }
    }

    private void enabledByAllAndOne() {
        sentence("with ALL enabled when all inputs are marked, with ONE when at least one is");
        defineMarker();
        yes("task", 1, ALL, ALL, mask(2, 3, 4), mask(1));
        yes("task", 2, ONE, ALL, mask(2, 3, 4), mask(1));
        yes("task", 3, ALL, ALL, mask(3), mask(1));
        yes("launch");
        enabled(0);
        yes("cancel");
        markSome(1, 2, 3, 4);
        enabled(1, 2, 3);
        yes("cancel");
        markSome(2, 2, 3);
        enabled(2, 3);
        notSo("fire", 1);
        yes("cancel");
        markSome(3, 2, 4);
        enabled(2);
        yes("cancel");
        markSome(4, 3, 4);
        enabled(2, 3);
        yes("cancel");
        markSome(5, 2);
        enabled(2);
        notSo("fire", 3);
        yes("cancel");
        markSome(6, 3);
        enabled(2, 3);
        yes("cancel");
        markSome(7, 4);
        enabled(2);
    }

    private void enabledBySome() {
        sentence("with SOME enabled when at least one input is marked: none of the others can come");
        yes("task", 0, ALL, ALL, mask(0), mask(5));
        yes("task", 1, SOME, ALL, mask(2, 3, 4), mask(1));
        yes("launch");
        enabled(0);
        ended(0, 1, 0);
        enabled();
        notSo("fire", 1);
        yes("cancel");
        defineMarker();
        markSome(2, 2);
        enabled(1);
        yes("cancel");
        markSome(3, 2, 3);
        enabled(1);
        yes("cancel");
        markSome(4, 2, 3, 4);
        enabled(1);

        sentence("with SOME not enabled when one of the others can come, whichever it is");
        yes("task", 0, ALL, ALL, mask(0), mask(3, 5));
        yes("task", 1, SOME, ALL, mask(2, 3, 4), mask(1));
        yes("task", 2, ALL, ALL, mask(5), mask(2));
        yes("launch");
        ended(0, 1, 0);
        enabled(2);
        notSo("fire", 1);
        yes("cancel");
        yes("task", 2, ALL, ALL, mask(5), mask(4));
        yes("launch");
        ended(0, 2, 0);
        enabled(2);
        notSo("fire", 1);
        is(3, "fire", 2);
        enabled();
        notSo("fire", 1);
        finished(1, 3, 0);
        enabled(1);
        yes("cancel");
        yes("task", 2, ALL, ALL, mask(5), mask(6));
        yes("launch");
        ended(0, 4, 0);
        enabled(1, 2);

        sentence("with SOME, a task that runs can bring an input, and one that has stopped can't");
        yes("task", 0, ALL, ALL, mask(0), mask(2, 5));
        yes("task", 1, SOME, ALL, mask(2, 3), mask(1));
        yes("task", 2, ALL, ALL, mask(5), mask(3));
        yes("launch");
        ended(0, 1, 0);
        enabled(2);
        is(2, "fire", 2);
        enabled();
        is(1, "fail", 2);
        enabled(1);

        sentence("with SOME, the others must come while the marked ones stay");
        yes("task", 0, ALL, ALL, mask(0), mask(2));
        yes("task", 1, SOME, ALL, mask(2, 3), mask(1));
        yes("task", 2, ALL, ALL, mask(2), mask(3));
        yes("launch");
        ended(0, 1, 0);
        enabled(1, 2);
        yes("cancel");
        yes("task", 2, ALL, ALL, mask(2), mask(2, 3));
        yes("launch");
        ended(0, 2, 0);
        enabled(2);
        yes("cancel");
        yes("region", 2, mask(2));
        yes("launch");
        ended(0, 3, 0);
        enabled(2);
        yes("cancel");
        yes("task", 0, ALL, ALL, mask(0), mask(2, 5));
        yes("task", 2, ALL, ALL, mask(5), mask(3));
        yes("region", 2, mask(2));
        yes("launch");
        ended(0, 4, 0);
        enabled(1, 2);

        sentence("with SOME, by moves of the other tasks, not by its own");
        yes("task", 0, ALL, ALL, mask(0), mask(2));
        yes("task", 1, SOME, ALL, mask(2, 3), mask(2, 3));
        yes("launch");
        ended(0, 1, 0);
        is(1, "covers", mask(2), mask(2, 3), -1);
        is(0, "covers", mask(2), mask(2, 3), 1);
        enabled(1);
    }

    private void fired() {
        sentence("to fire with ALL: all inputs are not marked any more, the other conditions stay");
        yes("task", 0, ALL, ALL, mask(0), mask(2, 3, 4));
        yes("task", 1, ALL, ALL, mask(2, 4), mask(1));
        yes("launch");
        ended(0, 1, 0);
        is(2, "fire", 1);
        marked(3, 9);

        sentence("to fire with ONE: the least marked input is not marked any more");
        defineMarker();
        yes("task", 1, ONE, ALL, mask(2, 3, 4), mask(1));
        markSome(1, 2, 3, 4);
        is(2, "fire", 1);
        marked(3, 4, 9);
        yes("cancel");
        markSome(3, 3, 4);
        is(4, "fire", 1);
        marked(4, 9);
        yes("cancel");
        markSome(5, 4);
        is(6, "fire", 1);
        marked(9);

        sentence("to fire with SOME: all marked inputs are not marked any more");
        defineMarker();
        yes("task", 1, SOME, ALL, mask(3, 4, 7), mask(1));
        markSome(1, 2, 3, 4);
        is(2, "fire", 1);
        marked(2, 9);
        yes("cancel");
        markSome(3, 2, 4);
        is(4, "fire", 1);
        marked(2, 9);

        sentence("as many items as its number are made, with the next ids (1, 2, ..), offered");
        for (int number = 1; number <= 4; number++) {
            yes("task", number, ALL, ALL, mask(0), mask(0));
            yes("items", number, number, 1, 0, 0);
        }
        yes("launch");
        states(0, -1, -1);
        int[] firsts = {0, 1, 2, 4, 7, 11};
        for (int number = 1; number <= 4; number++) {
            is(firsts[number], "fire", number);
            for (int id = firsts[number]; id < firsts[number + 1]; id++) {
                is(1, "item", id, 1);
                is(number, "item", id, 0);
            }
            bad("item", firsts[number + 1], 1);
            finished(1, firsts[number + 1] - 1, 0);
        }

        sentence("an item offered or started is open, one completed, failed or withdrawn is not");
        fiveStates();
        states(1, 1, 2, 3, 4);
        yes("cancel");
        states(1, 5, 5, 3, 4);
        for (int id = 1; id <= 4; id++) {
            notSo("fail", id);
        }
        yes("launch");
        is(5, "fire", 0);
        is(0, "start", 6);
        is(0, "fail", 5);
        is(0, "fail", 6);
    }

    /** Item 1 is offered, 2 started, 3 completed, 4 failed. */
    private void fiveStates() {
        yes("task", 0, ALL, ALL, mask(0), mask(1));
        yes("items", 0, 4, 4, 0, 0);
        yes("launch");
        is(1, "fire", 0);
        is(0, "start", 2);
        finished(0, 3, 0);
        is(0, "fail", 4);
    }

    private void endedByTheThreshold() {
        sentence("as many items completed as the threshold: the task ends, not before");
        int id = 1;
        for (int threshold = 1; threshold <= 4; threshold++) {
            yes("task", 0, ALL, ALL, mask(0), mask(2));
            yes("items", 0, 4, threshold, 0, 0);
            yes("launch");
            is(id, "fire", 0);
            for (int i = 0; i < threshold - 1; i++) {
                finished(0, id + i, i);
                marked(8);
            }
            finished(1, id + threshold - 1, 9);
            marked(2);
            states(id + threshold, threshold == 4 ? -1 : 5);
            yes("cancel");
            id += 4;
        }

        sentence("a failed item does not count for the threshold");
        yes("task", 0, ALL, ALL, mask(0), mask(2));
        yes("items", 0, 4, 2, 0, 0);
        yes("launch");
        is(1, "fire", 0);
        is(0, "fail", 1);
        is(0, "fail", 2);
        finished(0, 3, 0);
        marked(8);
        finished(1, 4, 0);
        marked(2);

        sentence("its items that are open are withdrawn, the others stay as they are");
        yes("task", 0, ALL, ALL, mask(0), mask(2));
        yes("items", 0, 4, 1, 0, 0);
        yes("launch");
        is(1, "fire", 0);
        is(0, "start", 1);
        is(0, "fail", 3);
        finished(1, 4, 0);
        states(1, 5, 5, 4, 3);
        marked(2);

        sentence("the items of an earlier firing do not count for the threshold");
        yes("task", 0, ALL, ALL, mask(0), mask(0));
        yes("items", 0, 2, 2, 0, 0);
        yes("launch");
        is(1, "fire", 0);
        finished(0, 1, 0);
        finished(1, 2, 0);
        is(3, "fire", 0);
        finished(0, 3, 0);
        marked(8);
        finished(1, 4, 0);
        marked(0);
        is(5, "fire", 0);
        finished(0, 5, 0);
        is(1, "fail", 6);
        marked();
    }

    private void clearedByTheEnd() {
        sentence("each condition of its region is not marked any more, the others stay");
        yes("task", 0, ALL, ALL, mask(0), mask(0, 3, 7));
        yes("task", 1, ALL, ALL, mask(3), mask(3, 4));
        yes("task", 2, ALL, ALL, mask(4), mask(5));
        yes("region", 2, mask(0, 6, 7));
        yes("launch");
        ended(0, 1, 0);
        ended(1, 2, 0);
        marked(0, 3, 4, 7);
        ended(2, 3, 0);
        marked(3, 5);

        sentence("the region is cleared when the task ends, not when it begins");
        yes("task", 0, ALL, ALL, mask(0), mask(2, 3));
        yes("task", 1, ALL, ALL, mask(2), mask(4));
        yes("region", 1, mask(3));
        yes("launch");
        ended(0, 1, 0);
        is(2, "fire", 1);
        marked(3, 9);
        finished(1, 2, 0);
        marked(4);

        sentence("then its outputs are marked: one that stands in the region, too");
        yes("task", 0, ALL, ALL, mask(0), mask(0, 2));
        yes("region", 0, mask(0, 2));
        yes("launch");
        ended(0, 1, 0);
        marked(0, 2);

        sentence("each task of its region that runs stops: its open items are withdrawn, nothing is marked");
        fourTasksRun(mask(9, 10, 13));
        is(1, "finish", 9, 0);
        marked(4, 7, 11);
        states(3, 3, 5, 4, 5, 5, 1, 3);
        enabled();
        finished(1, 8, 0);
        marked(4, 5, 7);

        sentence("a task that is not of its region runs on");
        fourTasksRun(mask(9, 13));
        is(1, "finish", 9, 0);
        marked(4, 7, 10, 11);
        states(3, 3, 5, 4, 5, 2, 1, 3);
        is(1, "finish", 7, 0);
        finished(1, 8, 0);
        marked(3, 4, 5, 7);

        sentence("a task that stands in its own region ends as any other");
        yes("task", 0, ALL, ALL, mask(0), mask(0, 2));
        yes("items", 0, 3, 2, 0, 0);
        yes("region", 0, mask(0, 8));
        yes("launch");
        is(1, "fire", 0);
        finished(0, 1, 0);
        is(0, "start", 3);
        finished(1, 2, 4);
        states(1, 3, 3, 5);
        marked(0, 2);
        is(4, "fire", 0);
        marked(2, 8);
        is(1, "covers", mask(8), mask(0, 2), -1);
        is(0, "covers", mask(8), mask(0, 2, 8), -1);
    }

    /** Tasks 1 to 4 run, of items 3 to 6, 7, 8 and 9; 4 has this region, 1 would clear what stays marked. */
    private void fourTasksRun(int region) {
        yes("task", 0, ALL, ALL, mask(0), mask(2, 3, 5));
        yes("task", 1, ALL, ALL, mask(2), mask(2));
        yes("items", 1, 4, 4, 0, 0);
        yes("region", 1, mask(7));
        yes("task", 2, ALL, ALL, mask(3), mask(3));
        yes("task", 3, ALL, ALL, mask(5), mask(5));
        yes("task", 4, ALL, ALL, mask(6), mask(4));
        yes("region", 4, region);
        yes("task", 5, ALL, ALL, mask(5), mask(5, 6, 7));
        yes("launch");
        ended(0, 1, 0);
        ended(5, 2, 0);
        is(3, "fire", 1);
        finished(0, 3, 0);
        is(0, "start", 4);
        is(0, "fail", 5);
        is(7, "fire", 2);
        is(0, "start", 7);
        is(8, "fire", 3);
        is(9, "fire", 4);
        is(0, "start", 9);
        marked(7, 9, 10, 11, 12);
    }

    private void outputsAreChosen() {
        sentence("with split ALL all outputs, whatever their guards say");
        yes("task", 0, ALL, ALL, mask(0), mask(1, 4, 7));
        yes("guard", 0, 1, 0, 1, 0);
        yes("guard", 0, 4, 0, 1, 0);
        yes("guard", 0, 7, 0, 1, 0);
        outputsOf(0, 1, 0, 1, 4, 7);

        sentence("with split ONE the least whose guard holds");
        yes("task", 0, ALL, ONE, mask(0), mask(1, 4, 7));
        yes("guard", 0, 1, 0, 1, 1);
        yes("guard", 0, 4, 0, 1, 2);
        yes("guard", 0, 7, 0, 1, 3);
        outputsOf(0, 1, 1, 1);
        outputsOf(0, 2, 2, 4);
        outputsOf(0, 3, 3, 7);

        sentence("with split SOME all whose guards hold");
        yes("task", 0, ALL, SOME, mask(0), mask(1, 4, 7));
        yes("guard", 0, 1, 0, 1, 3);
        yes("guard", 0, 4, 0, 2, 4);
        yes("guard", 0, 7, 0, 3, 3);
        outputsOf(0, 1, 1, 1);
        outputsOf(0, 2, 2, 1, 4);
        outputsOf(0, 3, 3, 1, 4, 7);
        outputsOf(0, 4, 4, 4);

        sentence("if no guard holds, the greatest output");
        for (int split = ONE; split <= SOME; split++) {
            yes("task", split, ALL, split, mask(0), mask(1, 4, 7));
            yes("guard", split, 1, 0, 1, 1);
            yes("guard", split, 4, 0, 1, 1);
            yes("guard", split, 7, 0, 1, 1);
            yes("task", split + 2, ALL, split, mask(0), mask(5));
            yes("guard", split + 2, 5, 0, 1, 1);
            outputsOf(split, 4 * split - 3, 0, 7);
            outputsOf(split, 4 * split - 2, 2, 7);
            outputsOf(split + 2, 4 * split - 1, 0, 5);
            outputsOf(split + 2, 4 * split, 1, 5);
        }

        sentence("the guards look at the variables as the last item leaves them");
        yes("task", 0, ALL, ONE, mask(0), mask(1, 2));
        yes("items", 0, 2, 2, 3, 0);
        yes("guard", 0, 1, 3, 5, 5);
        yes("launch");
        is(1, "fire", 0);
        finished(0, 1, 5);
        finished(1, 2, 4);
        marked(2);
        yes("cancel");
        yes("launch");
        is(3, "fire", 0);
        finished(0, 3, 4);
        finished(1, 4, 5);
        marked(1);
    }

    private void stopped() {
        sentence("no item open and the threshold not reached: the task stops, and nothing is marked");
        yes("task", 0, ALL, ALL, mask(0), mask(2, 3));
        yes("task", 1, ALL, ALL, mask(2), mask(4));
        yes("items", 1, 2, 2, 1, 0);
        yes("region", 1, mask(3));
        yes("launch");
        ended(0, 1, 0);
        is(2, "fire", 1);
        is(0, "fail", 2);
        marked(3, 9);
        is(1, "fail", 3);
        marked(3);
        states(2, 4, 4);
        enabled();

        sentence("a threshold that is not reached, by the last item that is completed: the task stops");
        yes("task", 0, ALL, ALL, mask(0), mask(1));
        yes("items", 0, 2, 2, 1, 0);
        yes("launch");
        is(1, "fire", 0);
        is(0, "fail", 1);
        finished(0, 2, 5);
        is(5, "variable", 1);
        marked();
        states(1, 4, 3);
        enabled();
        yes("cancel");
        yes("items", 0, 2, 1, 1, 0);
        yes("launch");
        is(3, "fire", 0);
        is(0, "fail", 3);
        finished(1, 4, 6);
        marked(1);

        sentence("a threshold that can't be reached any more: the task runs while an item is open");
        yes("task", 0, ALL, ALL, mask(0), mask(1));
        yes("items", 0, 3, 3, 0, 0);
        yes("launch");
        is(1, "fire", 0);
        is(0, "fail", 2);
        marked(8);
        finished(0, 1, 0);
        marked(8);
        states(1, 3, 4, 1);
        is(0, "start", 3);
        is(1, "fail", 3);
        marked();
    }

    private void verdictIsNone() {
        sentence("there is no verdict (-1) when no task is defined");
        is(-1, "verdict");
        no("task", 0, ALL, ALL, 0, mask(1));
        is(-1, "verdict");
        yes("task", 0, ALL, ALL, mask(0), mask(1));
        is(7, "verdict");

        sentence("there is no verdict (-1) when a task has the join SOME");
        for (int t = 0; t < 6; t++) {
            yes("task", t, ALL, ALL, mask(0), mask(1));
            is(7, "verdict");
        }
        for (int t = 0; t < 6; t++) {
            yes("task", t, SOME, ALL, mask(0), mask(1));
            is(-1, "verdict");
            yes("task", t, ONE, SOME, mask(0), mask(1));
            is(7, "verdict");
        }
    }

    private void verdictOne() {
        sentence("verdict 1 if from each of the first ones the END is covered");
        yes("task", 0, ALL, ONE, mask(0), mask(1, 2));
        is(2 + 4, "verdict");
        yes("task", 1, ALL, ALL, mask(2), mask(3));
        is(2 + 4, "verdict");
        yes("task", 2, ALL, ALL, mask(3), mask(1));
        is(1 + 2 + 4, "verdict");

        sentence("verdict 1: the START is the first of them");
        yes("task", 0, ALL, ALL, mask(2), mask(1));
        is(2, "verdict");

        sentence("verdict 1: from masks that are not led to it need not be covered");
        yes("task", 0, ALL, ALL, mask(0), mask(1));
        yes("task", 1, ALL, ALL, mask(3), mask(4));
        is(1 + 2, "verdict");
    }

    private void verdictTwo() {
        sentence("verdict 2 if none of them has the END and another condition");
        yes("task", 0, ALL, ALL, mask(0), mask(1));
        is(1 + 2 + 4, "verdict");
        yes("task", 0, ALL, ALL, mask(0), mask(0, 1));
        is(1 + 4, "verdict");
        yes("task", 0, ALL, ALL, mask(0), mask(1, 7));
        is(1 + 4, "verdict");
        yes("task", 0, ALL, ALL, mask(0), mask(2, 7));
        is(2 + 4, "verdict");

        sentence("verdict 2 if none of them has the END and a task that runs");
        yes("task", 0, ALL, ALL, mask(0), mask(2, 3));
        yes("task", 1, ALL, ALL, mask(2), mask(4));
        yes("region", 1, mask(1));
        yes("task", 2, ALL, ALL, mask(3), mask(1));
        yes("region", 2, mask(2, 4));
        is(4, "verdict");
        yes("region", 2, mask(2, 4, 9));
        is(1 + 2 + 4, "verdict");
        yes("region", 2, mask(2, 9));
        is(1 + 4, "verdict");
    }

    private void verdictFour() {
        sentence("verdict 4 if each defined task can begin in one of them");
        yes("task", 0, ALL, ALL, mask(0), mask(1));
        yes("task", 5, ALL, ALL, mask(3), mask(1));
        is(1 + 2, "verdict");
        yes("task", 5, ALL, ALL, mask(1), mask(1));
        is(1 + 2 + 4, "verdict");

        sentence("verdict 4: all that one of its moves to begin takes is marked");
        yes("task", 0, ALL, ONE, mask(0), mask(1, 2));
        yes("task", 1, ALL, ALL, mask(1, 2), mask(1));
        is(2, "verdict");
        yes("task", 1, ONE, ALL, mask(1, 2), mask(1));
        is(1 + 2 + 4, "verdict");
        yes("task", 1, ONE, ALL, mask(2, 3), mask(1));
        is(1 + 2 + 4, "verdict");
        yes("task", 1, ALL, ALL, mask(2, 3), mask(1));
        is(2, "verdict");

        sentence("verdict 4: tasks that are not defined need not begin");
        yes("task", 3, ALL, ALL, mask(0), mask(1));
        is(1 + 2 + 4, "verdict");

        sentence("the verdict is of the net, whatever the case has come to");
        yes("task", 0, ALL, ALL, mask(0), mask(1));
        yes("guard", 0, 1, 0, 1, 0);
        yes("items", 0, 2, 2, 0, 1);
        yes("launch");
        is(7, "verdict");
        is(1, "fire", 0);
        is(7, "verdict");
        is(1, "tick", 1);
        marked();
        is(7, "verdict");
    }
}
