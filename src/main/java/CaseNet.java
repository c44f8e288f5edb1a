import java.util.Arrays;

/**
 * An engine for cases that go through a net of conditions and tasks.
 * What each call promises stands in the project's document.
 */
public final class CaseNet {
    public static final int BAD = -1;
    public static final int NOT_SO = -2;
    public static final int FULL = -3;

    private static final int CONDITIONS = 8;
    private static final int TASKS = 6;
    private static final int PLACES = CONDITIONS + TASKS;
    private static final int VARIABLES = 4;
    private static final int MOST_ENDS = 3;
    private static final int MOST_ITEMS = 60;
    private static final int MOST_ITEMS_OF_A_TASK = 4;
    private static final int MOST_TICKS = 100;
    private static final int LEAST_VALUE = -2147483648;
    private static final int GREATEST_VALUE = 2147483647;

    private static final int START = 1;
    private static final int END = 2;

    private static final int ALL = 0;
    private static final int ONE = 1;
    private static final int SOME = 2;

    private static final int OFFERED = 1;
    private static final int STARTED = 2;
    private static final int COMPLETED = 3;
    private static final int FAILED = 4;
    private static final int WITHDRAWN = 5;

    /** No mask, or no task to leave out, or no verdict. */
    private static final int NONE = -1;

    private final Net net;
    private final WorkList work;
    private final int[] variables;
    private boolean on;
    private int present;
    private int clock;

    public CaseNet() {
        net = new Net();
        work = new WorkList();
        variables = new int[VARIABLES];
    }

    public boolean task(int t, int join, int split, int ins, int outs) {
        if (on || !isBetween(t, 0, TASKS - 1)) {
            return false;
        }
        if (!isBetween(join, ALL, SOME) || !isBetween(split, ALL, SOME)) {
            return false;
        }
        if (!isOneToThreeConditions(ins) || !isOneToThreeConditions(outs)) {
            return false;
        }
        net.tasks[t].define(join, split, ins, outs);
        return true;
    }

    public boolean region(int t, int places) {
        if (on || !net.isDefined(t) || !isMaskOfPlaces(places)) {
            return false;
        }
        net.tasks[t].cleared = places;
        return true;
    }

    public boolean guard(int t, int c, int variable, int low, int high) {
        if (on || !net.isDefined(t) || !isVariable(variable)) {
            return false;
        }
        if (!isBetween(c, 0, CONDITIONS - 1) || (net.tasks[t].outs & (1 << c)) == 0) {
            return false;
        }
        net.tasks[t].putGuard(c, variable, low, high);
        return true;
    }

    public boolean items(int t, int number, int threshold, int variable, int deadline) {
        if (on || !net.isDefined(t) || !isVariable(variable)) {
            return false;
        }
        if (!isBetween(number, 1, MOST_ITEMS_OF_A_TASK) || !isBetween(threshold, 1, number)) {
            return false;
        }
        if (!isBetween(deadline, 0, MOST_TICKS)) {
            return false;
        }
        net.tasks[t].putWork(number, threshold, variable, deadline);
        return true;
    }

    public boolean launch() {
        if (on || net.definedTasks() == 0) {
            return false;
        }
        on = true;
        present = START;
        return true;
    }

    public boolean cancel() {
        if (!on) {
            return false;
        }
        stopTasksAmong(present);
        present = 0;
        on = false;
        return true;
    }

    public int enabled() {
        int mask = 0;
        for (int t = 0; t < TASKS; t++) {
            if (canFire(t)) {
                mask |= 1 << t;
            }
        }
        return mask;
    }

    public int fire(int t) {
        if (!net.isDefined(t)) {
            return BAD;
        }
        if (!canFire(t)) {
            return NOT_SO;
        }
        Task task = net.tasks[t];
        if (!work.hasRoomFor(task.number)) {
            return FULL;
        }
        present = (present & ~task.inputsUsed(present)) | task.place;
        task.firstItem = work.offer(t, task.number, clock);
        return task.firstItem;
    }

    public int start(int item) {
        if (!work.has(item)) {
            return BAD;
        }
        if (work.state[item] != OFFERED) {
            return NOT_SO;
        }
        work.state[item] = STARTED;
        return 0;
    }

    public int finish(int item, int value) {
        if (!work.has(item)) {
            return BAD;
        }
        if (work.state[item] != STARTED) {
            return NOT_SO;
        }
        Task task = net.tasks[work.task[item]];
        work.state[item] = COMPLETED;
        variables[task.variable] = value;
        if (work.countCompleted(task.firstItem, task.number) >= task.threshold) {
            end(task);
            return 1;
        }
        stopIfNoneIsOpen(task);
        return 0;
    }

    public int fail(int item) {
        if (!work.has(item)) {
            return BAD;
        }
        if (!work.isOpen(item)) {
            return NOT_SO;
        }
        return failOpen(item) ? 1 : 0;
    }

    public int tick(int n) {
        if (isBetween(n, 0, MOST_TICKS)) {
            clock += n;
        }
        for (int item = 1; item <= work.made; item++) {
            if (work.isOpen(item) && isOverdue(item)) {
                failOpen(item);
            }
        }
        return clock;
    }

    public boolean set(int variable, int value) {
        if (!isVariable(variable)) {
            return false;
        }
        variables[variable] = value;
        return true;
    }

    public int variable(int i) {
        return isVariable(i) ? variables[i] : 0;
    }

    public int marking() {
        return present;
    }

    public int item(int id, int what) {
        if (!work.has(id)) {
            return BAD;
        }
        switch (what) {
            case 0:
                return work.task[id];
            case 1:
                return work.state[id];
            case 2:
                return work.offeredAt[id];
            default:
                return BAD;
        }
    }

    public int covers(int from, int target, int without) {
        if (!isMaskOfPlaces(from) || !isMaskOfPlaces(target)) {
            return BAD;
        }
        if (!isBetween(without, NONE, TASKS - 1)) {
            return BAD;
        }
        return net.findCovering(target, from, without) ? 1 : 0;
    }

    public int verdict() {
        return net.judge();
    }

    private static boolean isBetween(int number, int least, int greatest) {
        return number >= least && number <= greatest;
    }

    private static boolean isVariable(int number) {
        return isBetween(number, 0, VARIABLES - 1);
    }

    private static boolean isMaskOfPlaces(int mask) {
        return mask >>> PLACES == 0;
    }

    private static boolean isOneToThreeConditions(int mask) {
        return mask >>> CONDITIONS == 0 && isBetween(Integer.bitCount(mask), 1, MOST_ENDS);
    }

    private boolean canFire(int t) {
        if (!on || !net.isDefined(t)) {
            return false;
        }
        Task task = net.tasks[t];
        int marked = present & task.ins;
        if ((present & task.place) != 0 || marked == 0) {
            return false;
        }
        switch (task.join) {
            case ALL:
                return marked == task.ins;
            case ONE:
                return true;
            default:
                return !canMoreInputsCome(t);
        }
    }

    private boolean canMoreInputsCome(int t) {
        int ins = net.tasks[t].ins;
        for (int c = 0; c < CONDITIONS; c++) {
            int other = ins & ~present & (1 << c);
            if (other != 0 && net.findCovering((present & ins) | other, present, t)) {
                return true;
            }
        }
        return false;
    }

    private void end(Task task) {
        stop(task);
        stopTasksAmong(task.cleared);
        present = (present & ~task.cleared) | task.chosenOutputs(variables);
    }

    private void stop(Task task) {
        work.withdrawOpen(task.firstItem, task.number);
        present &= ~task.place;
    }

    private void stopTasksAmong(int places) {
        for (int t = 0; t < TASKS; t++) {
            Task task = net.tasks[t];
            if ((present & places & task.place) != 0) {
                stop(task);
            }
        }
    }

    private boolean stopIfNoneIsOpen(Task task) {
        if (work.isAnyOpen(task.firstItem, task.number)) {
            return false;
        }
        stop(task);
        return true;
    }

    /** Answers whether the item's task stopped by it. */
    private boolean failOpen(int item) {
        work.state[item] = FAILED;
        return stopIfNoneIsOpen(net.tasks[work.task[item]]);
    }

    private boolean isOverdue(int item) {
        int deadline = net.tasks[work.task[item]].deadline;
        return deadline > 0 && clock - work.offeredAt[item] >= deadline;
    }

    /** All items ever made, by their ids; those of one firing stand next to each other. */
    private static final class WorkList {
        final int[] task = new int[MOST_ITEMS + 1];
        final int[] state = new int[MOST_ITEMS + 1];
        final int[] offeredAt = new int[MOST_ITEMS + 1];
        int made;

        boolean has(int id) {
            return id >= 1 && id <= made;
        }

        boolean hasRoomFor(int number) {
            return made + number <= MOST_ITEMS;
        }

        int offer(int t, int number, int clock) {
            int first = made + 1;
            for (int id = first; id < first + number; id++) {
                task[id] = t;
                state[id] = OFFERED;
                offeredAt[id] = clock;
            }
            made += number;
            return first;
        }

        boolean isOpen(int id) {
            return state[id] == OFFERED || state[id] == STARTED;
        }

        boolean isAnyOpen(int first, int number) {
            for (int id = first; id < first + number; id++) {
                if (isOpen(id)) {
                    return true;
                }
            }
            return false;
        }

        int countCompleted(int first, int number) {
            int count = 0;
            for (int id = first; id < first + number; id++) {
                if (state[id] == COMPLETED) {
                    count++;
                }
            }
            return count;
        }

        void withdrawOpen(int first, int number) {
            for (int id = first; id < first + number; id++) {
                if (isOpen(id)) {
                    state[id] = WITHDRAWN;
                }
            }
        }
    }

    /** What a task was defined to be, and its moves. */
    private static final class Task {
        private static final int MOST_PUTS = 7;

        final int place;
        boolean defined;
        int join;
        int split;
        int ins;
        int outs;
        int cleared;
        int number;
        int threshold;
        int variable;
        int deadline;
        /** The first item of the present firing; its others come right after it. */
        int firstItem;

        /** The masks that the moves to begin take, and those that the moves to end put. */
        final int[] takes = new int[MOST_ENDS];
        final int[] puts = new int[MOST_PUTS];
        int takesCount;
        int putsCount;

        private final int[] guardVariable = new int[CONDITIONS];
        private final int[] guardLow = new int[CONDITIONS];
        private final int[] guardHigh = new int[CONDITIONS];

        Task(int t) {
            place = 1 << (CONDITIONS + t);
        }

        void define(int newJoin, int newSplit, int newIns, int newOuts) {
            defined = true;
            join = newJoin;
            split = newSplit;
            ins = newIns;
            outs = newOuts;
            cleared = 0;
            putWork(1, 1, 0, 0);
            for (int c = 0; c < CONDITIONS; c++) {
                putGuard(c, 0, LEAST_VALUE, GREATEST_VALUE);
            }
            listTakes();
            listPuts();
        }

        void putWork(int newNumber, int newThreshold, int newVariable, int newDeadline) {
            number = newNumber;
            threshold = newThreshold;
            variable = newVariable;
            deadline = newDeadline;
        }

        void putGuard(int c, int guarded, int low, int high) {
            guardVariable[c] = guarded;
            guardLow[c] = low;
            guardHigh[c] = high;
        }

        private void listTakes() {
            takesCount = 0;
            for (int mask = 1; mask <= ins; mask++) {
                if ((mask & ~ins) == 0 && isMoveOf(join == ALL ? ALL : ONE, mask, ins)) {
                    takes[takesCount] = mask;
                    takesCount++;
                }
            }
        }

        private void listPuts() {
            putsCount = 0;
            for (int mask = 1; mask <= outs; mask++) {
                if ((mask & ~outs) == 0 && isMoveOf(split, mask, outs)) {
                    puts[putsCount] = mask;
                    putsCount++;
                }
            }
        }

        private static boolean isMoveOf(int kind, int part, int whole) {
            switch (kind) {
                case ALL:
                    return part == whole;
                case ONE:
                    return Integer.bitCount(part) == 1;
                default:
                    return true;
            }
        }

        int inputsUsed(int marked) {
            int used = marked & ins;
            return join == ONE ? used & -used : used;
        }

        int chosenOutputs(int[] values) {
            if (split == ALL) {
                return outs;
            }
            int holding = 0;
            int greatest = 0;
            for (int c = 0; c < CONDITIONS; c++) {
                if ((outs & (1 << c)) != 0) {
                    greatest = 1 << c;
                    holding |= guardHolds(c, values) ? greatest : 0;
                }
            }
            if (holding == 0) {
                return greatest;
            }
            return split == ONE ? holding & -holding : holding;
        }

        private boolean guardHolds(int c, int[] values) {
            int value = values[guardVariable[c]];
            return value >= guardLow[c] && value <= guardHigh[c];
        }
    }

    /** The tasks, and what their moves can lead to. */
    private static final class Net {
        final Task[] tasks = new Task[TASKS];
        /** The masks that a search still has to go on from. */
        private final MaskSet open = new MaskSet();
        private final MaskSet reached = new MaskSet();
        private final MaskSet covering = new MaskSet();
        private int begun;
        private boolean endStandsAlone;

        Net() {
            for (int t = 0; t < TASKS; t++) {
                tasks[t] = new Task(t);
            }
        }

        boolean isDefined(int t) {
            return isBetween(t, 0, TASKS - 1) && tasks[t].defined;
        }

        int definedTasks() {
            int mask = 0;
            for (int t = 0; t < TASKS; t++) {
                mask |= tasks[t].defined ? 1 << t : 0;
            }
            return mask;
        }

        int judge() {
            if (definedTasks() == 0 || hasJoinSome()) {
                return NONE;
            }
            reachFromStart();
            // Nothing covers the END from the empty mask: sought in vain, it lets the search go on to its end.
            findCovering(END, 0, NONE);
            int verdict = reached.isWithin(covering) ? 1 : 0;
            verdict |= endStandsAlone ? 2 : 0;
            verdict |= begun == definedTasks() ? 4 : 0;
            return verdict;
        }

        private boolean hasJoinSome() {
            for (int t = 0; t < TASKS; t++) {
                if (tasks[t].defined && tasks[t].join == SOME) {
                    return true;
                }
            }
            return false;
        }

        /**
         * Gathers the masks from which the target is covered, until the sought one is among them,
         * and answers whether it is. It goes back from the target: before a move there must be the
         * places that it takes, and those of the target that it does not put.
         */
        boolean findCovering(int target, int sought, int without) {
            covering.clear();
            open.clear();
            addNeed(target);
            for (int left = MaskSet.MASKS; left > 0 && !covering.has(sought); left--) {
                int need = open.draw();
                if (need == NONE) {
                    return false;
                }
                for (int t = 0; t < TASKS; t++) {
                    if (t != without && tasks[t].defined) {
                        goBackBeforeEnd(tasks[t], need);
                        goBackBeforeBegin(tasks[t], need);
                    }
                }
            }
            return covering.has(sought);
        }

        private void goBackBeforeEnd(Task task, int need) {
            int lost = task.cleared | task.place;
            for (int i = 0; i < task.putsCount; i++) {
                int rest = need & ~task.puts[i];
                if (rest != need && (rest & lost) == 0) {
                    addNeed(rest | task.place);
                }
            }
        }

        private void goBackBeforeBegin(Task task, int need) {
            int rest = need & ~task.place;
            if (rest == need) {
                return;
            }
            for (int i = 0; i < task.takesCount; i++) {
                if ((rest & task.takes[i]) == 0) {
                    addNeed(rest | task.takes[i]);
                }
            }
        }

        /** A mask with all places of an earlier need tells nothing new: that need is easier to meet. */
        private void addNeed(int need) {
            if (!covering.has(need)) {
                covering.addAllAbove(need);
                open.add(need);
            }
        }

        /** Gathers the first masks, and what the verdict asks of each of them. */
        private void reachFromStart() {
            reached.clear();
            open.clear();
            begun = 0;
            endStandsAlone = true;
            addReached(START);
            for (int left = MaskSet.MASKS; left > 0; left--) {
                int mask = open.draw();
                if (mask == NONE) {
                    return;
                }
                if ((mask & END) != 0 && mask != END) {
                    endStandsAlone = false;
                }
                for (int t = 0; t < TASKS; t++) {
                    if (tasks[t].defined) {
                        goOnByBegin(t, mask);
                        goOnByEnd(tasks[t], mask);
                    }
                }
            }
        }

        private void goOnByBegin(int t, int mask) {
            Task task = tasks[t];
            for (int i = 0; i < task.takesCount; i++) {
                int taken = task.takes[i];
                if ((mask & taken) == taken) {
                    begun |= 1 << t;
                    addReached((mask & ~taken) | task.place);
                }
            }
        }

        private void goOnByEnd(Task task, int mask) {
            if ((mask & task.place) == 0) {
                return;
            }
            int rest = mask & ~(task.cleared | task.place);
            for (int i = 0; i < task.putsCount; i++) {
                addReached(rest | task.puts[i]);
            }
        }

        private void addReached(int mask) {
            if (!reached.has(mask)) {
                reached.add(mask);
                open.add(mask);
            }
        }
    }

    /** A set of masks of places: one bit for each of them, so that its room is small. */
    private static final class MaskSet {
        static final int MASKS = 1 << PLACES;

        private static final int LOW_PLACES = 6;
        private static final int LOW = (1 << LOW_PLACES) - 1;
        private static final int WORDS = MASKS >> LOW_PLACES;
        /** For each low place, the bits of a word whose masks have it. */
        private static final long[] HAVING = {
            0xAAAAAAAAAAAAAAAAL, 0xCCCCCCCCCCCCCCCCL, 0xF0F0F0F0F0F0F0F0L,
            0xFF00FF00FF00FF00L, 0xFFFF0000FFFF0000L, 0xFFFFFFFF00000000L
        };

        private final long[] words = new long[WORDS];
        /** Every word before this one is empty, so that draw need not look at them again. */
        private int firstUsed = WORDS;

        void clear() {
            Arrays.fill(words, 0L);
            firstUsed = WORDS;
        }

        boolean has(int mask) {
            return ((words[mask >> LOW_PLACES] >>> (mask & LOW)) & 1L) != 0;
        }

        void add(int mask) {
            int word = mask >> LOW_PLACES;
            words[word] |= 1L << (mask & LOW);
            firstUsed = word < firstUsed ? word : firstUsed;
        }

        /** Adds each mask that has all bits of this one. */
        void addAllAbove(int mask) {
            long above = -1L;
            for (int place = 0; place < LOW_PLACES; place++) {
                if ((mask & (1 << place)) != 0) {
                    above &= HAVING[place];
                }
            }
            int high = mask >> LOW_PLACES;
            for (int word = high; word < WORDS; word = (word + 1) | high) {
                words[word] |= above;
            }
            firstUsed = high < firstUsed ? high : firstUsed;
        }

        /** Takes the least mask out of the set, and answers it. */
        int draw() {
            for (; firstUsed < WORDS; firstUsed++) {
                long word = words[firstUsed];
                if (word != 0) {
                    long least = word & -word;
                    words[firstUsed] = word ^ least;
                    return (firstUsed << LOW_PLACES) + Long.bitCount(least - 1);
                }
            }
            return NONE;
        }

        boolean isWithin(MaskSet other) {
            for (int word = 0; word < WORDS; word++) {
                if ((words[word] & ~other.words[word]) != 0) {
                    return false;
                }
            }
            return true;
        }
    }
}
