import java.util.ArrayDeque;
import java.util.ArrayList;
import java.util.List;

/**
 * The document once more, told as literally as can be, to compare the program with: moves are listed
 * one by one, and what is covered is found by making them, forwards, where the program goes backwards.
 */
final class PlainNet {
    private static final int MASKS = 1 << 14;

    private record Move(int owner, boolean begins, int taken, int cleared, int put) {
        boolean canBeMade(int mask) {
            return (mask & taken) == taken;
        }

        int made(int mask) {
            return mask & ~taken & ~cleared | put;
        }
    }

    private record Guard(int variable, int low, int high) { }

    private static final class Task {
        int join;
        int split;
        int ins;
        int outs;
        int region;
        Guard[] guards = new Guard[8];
        int number = 1;
        int threshold = 1;
        int variable;
        int deadline;
        List<Item> running;
    }

    private static final class Item {
        int task;
        int state = 1;
        int offered;

        boolean isOpen() {
            return state < 3;
        }
    }

    private final Task[] tasks = new Task[6];
    private final List<Item> items = new ArrayList<>();
    private final int[] variables = new int[4];
    private boolean on;
    private int conditions;
    private int clock;

    private static List<Integer> bits(int mask) {
        List<Integer> bits = new ArrayList<>();
        for (int b = 0; b < 32; b++) {
            if ((mask >>> b & 1) == 1) {
                bits.add(b);
            }
        }
        return bits;
    }

    private static boolean in(int x, int low, int high) {
        return low <= x && x <= high;
    }

    private static boolean maskOf(int mask, int width) {
        return bits(mask).stream().allMatch(b -> b < width);
    }

    private static boolean ends(int mask) {
        return maskOf(mask, 8) && in(bits(mask).size(), 1, 3);
    }

    private boolean defined(int t) {
        return in(t, 0, 5) && tasks[t] != null;
    }

    boolean task(int t, int join, int split, int ins, int outs) {
        if (on || !in(t, 0, 5) || !in(join, 0, 2) || !in(split, 0, 2) || !ends(ins) || !ends(outs)) {
            return false;
        }
        Task task = new Task();
        task.join = join;
        task.split = split;
        task.ins = ins;
        task.outs = outs;
        for (int c = 0; c < 8; c++) {
            task.guards[c] = new Guard(0, Integer.MIN_VALUE, Integer.MAX_VALUE);
        }
        tasks[t] = task;
        return true;
    }

    boolean region(int t, int places) {
        if (on || !defined(t) || !maskOf(places, 14)) {
            return false;
        }
        tasks[t].region = places;
        return true;
    }

    boolean guard(int t, int c, int variable, int low, int high) {
        if (on || !defined(t) || !bits(tasks[t].outs).contains(c) || !in(variable, 0, 3)) {
            return false;
        }
        tasks[t].guards[c] = new Guard(variable, low, high);
        return true;
    }

    boolean items(int t, int number, int threshold, int variable, int deadline) {
        if (on || !defined(t) || !in(number, 1, 4) || !in(threshold, 1, number)
                || !in(variable, 0, 3) || !in(deadline, 0, 100)) {
            return false;
        }
        tasks[t].number = number;
        tasks[t].threshold = threshold;
        tasks[t].variable = variable;
        tasks[t].deadline = deadline;
        return true;
    }

    private List<Move> moves(int without) {
        List<Move> moves = new ArrayList<>();
        for (int t = 0; t < 6; t++) {
            if (defined(t) && t != without) {
                addMoves(moves, t);
            }
        }
        return moves;
    }

    private void addMoves(List<Move> moves, int t) {
        Task task = tasks[t];
        int runs = 1 << 8 + t;
        if (task.join == 0) {
            moves.add(new Move(t, true, task.ins, 0, runs));
        } else {
            bits(task.ins).forEach(c -> moves.add(new Move(t, true, 1 << c, 0, runs)));
        }
        if (task.split == 0) {
            moves.add(new Move(t, false, runs, task.region, task.outs));
        } else if (task.split == 1) {
            bits(task.outs).forEach(c -> moves.add(new Move(t, false, runs, task.region, 1 << c)));
        } else {
            for (int some = task.outs; some != 0; some = some - 1 & task.outs) {
                moves.add(new Move(t, false, runs, task.region, some));
            }
        }
    }

    private static boolean[] reached(int from, List<Move> moves) {
        boolean[] reached = new boolean[MASKS];
        ArrayDeque<Integer> open = new ArrayDeque<>();
        reached[from] = true;
        open.add(from);
        while (!open.isEmpty()) {
            int mask = open.remove();
            for (Move move : moves) {
                if (move.canBeMade(mask) && !reached[move.made(mask)]) {
                    reached[move.made(mask)] = true;
                    open.add(move.made(mask));
                }
            }
        }
        return reached;
    }

    private boolean covered(int target, int from, int without) {
        boolean[] reached = reached(from, moves(without));
        for (int mask = 0; mask < MASKS; mask++) {
            if (reached[mask] && (mask & target) == target) {
                return true;
            }
        }
        return false;
    }

    int covers(int from, int target, int without) {
        if (!maskOf(from, 14) || !maskOf(target, 14) || !in(without, -1, 5)) {
            return -1;
        }
        return covered(target, from, without) ? 1 : 0;
    }

    int verdict() {
        boolean any = false;
        for (int t = 0; t < 6; t++) {
            any |= defined(t);
            if (defined(t) && tasks[t].join == 2) {
                return -1;
            }
        }
        if (!any) {
            return -1;
        }
        List<Move> moves = moves(-1);
        boolean[] first = reached(1, moves);
        return (allCanEnd(first, moves) ? 1 : 0) + (endIsAlone(first) ? 2 : 0) + (allBegin(first, moves) ? 4 : 0);
    }

    /** Within the masks reached, what leads to the END is spread back until nothing changes. */
    private static boolean allCanEnd(boolean[] first, List<Move> moves) {
        boolean[] can = new boolean[MASKS];
        boolean changed = true;
        while (changed) {
            changed = false;
            for (int mask = 0; mask < MASKS; mask++) {
                if (first[mask] && !can[mask] && ((mask & 2) != 0 || leadsInto(can, mask, moves))) {
                    can[mask] = true;
                    changed = true;
                }
            }
        }
        for (int mask = 0; mask < MASKS; mask++) {
            if (first[mask] && !can[mask]) {
                return false;
            }
        }
        return true;
    }

    private static boolean leadsInto(boolean[] set, int mask, List<Move> moves) {
        for (Move move : moves) {
            if (move.canBeMade(mask) && set[move.made(mask)]) {
                return true;
            }
        }
        return false;
    }

    private static boolean endIsAlone(boolean[] first) {
        for (int mask = 0; mask < MASKS; mask++) {
            if (first[mask] && bits(mask).contains(1) && bits(mask).size() > 1) {
                return false;
            }
        }
        return true;
    }

    private boolean allBegin(boolean[] first, List<Move> moves) {
        boolean[] begins = new boolean[6];
        for (int mask = 0; mask < MASKS; mask++) {
            for (Move move : moves) {
                if (first[mask] && move.begins() && move.canBeMade(mask)) {
                    begins[move.owner()] = true;
                }
            }
        }
        for (int t = 0; t < 6; t++) {
            if (defined(t) && !begins[t]) {
                return false;
            }
        }
        return true;
    }

    boolean launch() {
        boolean any = false;
        for (int t = 0; t < 6; t++) {
            any |= defined(t);
        }
        if (on || !any) {
            return false;
        }
        on = true;
        conditions = 1;
        return true;
    }

    boolean cancel() {
        if (!on) {
            return false;
        }
        for (int t = 0; t < 6; t++) {
            stop(t);
        }
        conditions = 0;
        on = false;
        return true;
    }

    private void stop(int t) {
        if (defined(t) && tasks[t].running != null) {
            for (Item item : tasks[t].running) {
                item.state = item.isOpen() ? 5 : item.state;
            }
            tasks[t].running = null;
        }
    }

    int marking() {
        int mask = conditions;
        for (int t = 0; t < 6; t++) {
            mask |= defined(t) && tasks[t].running != null ? 1 << 8 + t : 0;
        }
        return mask;
    }

    private boolean canFire(int t) {
        if (!on || !defined(t) || tasks[t].running != null) {
            return false;
        }
        Task task = tasks[t];
        int marked = conditions & task.ins;
        if (task.join == 0) {
            return marked == task.ins;
        }
        if (marked == 0 || task.join == 1) {
            return marked != 0;
        }
        for (int p : bits(task.ins & ~marked)) {
            if (covered(marked | 1 << p, marking(), t)) {
                return false;
            }
        }
        return true;
    }

    int enabled() {
        int mask = 0;
        for (int t = 0; t < 6; t++) {
            mask |= canFire(t) ? 1 << t : 0;
        }
        return mask;
    }

    int fire(int t) {
        if (!defined(t)) {
            return -1;
        }
        if (!canFire(t)) {
            return -2;
        }
        Task task = tasks[t];
        if (items.size() + task.number > 60) {
            return -3;
        }
        List<Integer> marked = bits(conditions & task.ins);
        conditions &= task.join == 1 ? ~(1 << marked.get(0)) : ~task.ins;
        task.running = new ArrayList<>();
        int first = items.size() + 1;
        for (int i = 0; i < task.number; i++) {
            Item item = new Item();
            item.task = t;
            item.offered = clock;
            task.running.add(item);
            items.add(item);
        }
        return first;
    }

    private boolean exists(int id) {
        return in(id, 1, items.size());
    }

    int start(int id) {
        if (!exists(id)) {
            return -1;
        }
        if (items.get(id - 1).state != 1) {
            return -2;
        }
        items.get(id - 1).state = 2;
        return 0;
    }

    int finish(int id, int value) {
        if (!exists(id)) {
            return -1;
        }
        Item item = items.get(id - 1);
        if (item.state != 2) {
            return -2;
        }
        item.state = 3;
        Task task = tasks[item.task];
        variables[task.variable] = value;
        if (task.running.stream().filter(i -> i.state == 3).count() == task.threshold) {
            end(item.task);
            return 1;
        }
        if (task.running.stream().noneMatch(Item::isOpen)) {
            stop(item.task);
        }
        return 0;
    }

    private void end(int t) {
        stop(t);
        Task task = tasks[t];
        for (int place : bits(task.region)) {
            if (place < 8) {
                conditions &= ~(1 << place);
            } else {
                stop(place - 8);
            }
        }
        conditions |= outputs(task);
    }

    private int outputs(Task task) {
        List<Integer> outs = bits(task.outs);
        if (task.split == 0) {
            return task.outs;
        }
        int mask = 0;
        for (int c : outs) {
            Guard guard = task.guards[c];
            if (in(variables[guard.variable()], guard.low(), guard.high()) && (task.split == 2 || mask == 0)) {
                mask |= 1 << c;
            }
        }
        return mask != 0 ? mask : 1 << outs.get(outs.size() - 1);
    }

    int fail(int id) {
        if (!exists(id)) {
            return -1;
        }
        Item item = items.get(id - 1);
        if (!item.isOpen()) {
            return -2;
        }
        item.state = 4;
        if (tasks[item.task].running.stream().anyMatch(Item::isOpen)) {
            return 0;
        }
        stop(item.task);
        return 1;
    }

    int tick(int n) {
        clock += in(n, 0, 100) ? n : 0;
        for (int id = 1; id <= items.size(); id++) {
            Item item = items.get(id - 1);
            int deadline = tasks[item.task].deadline;
            if (item.isOpen() && deadline != 0 && item.offered + deadline <= clock) {
                fail(id);
            }
        }
        return clock;
    }

    boolean set(int variable, int value) {
        if (!in(variable, 0, 3)) {
            return false;
        }
        variables[variable] = value;
        return true;
    }

    int variable(int i) {
        return in(i, 0, 3) ? variables[i] : 0;
    }

    int item(int id, int what) {
        if (!exists(id) || !in(what, 0, 2)) {
            return -1;
        }
        Item item = items.get(id - 1);
        return what == 0 ? item.task : what == 1 ? item.state : item.offered;
    }
}
