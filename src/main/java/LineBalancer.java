import java.util.Arrays;
import java.util.NoSuchElementException;

/** A balancer for an assembly line: tasks, stations, lines, commands, undo and a snapshot. */
public final class LineBalancer {
    private static final int MODELS = 3;
    private static final int TASKS = 12;
    private static final int STATIONS = 8;
    private static final int ALL_TASKS = (1 << TASKS) - 1;
    private static final int NOWHERE = -1;
    private static final int MAX_COPIES = 3;
    private static final int MAX_DEMAND = 9;
    private static final int MAX_TIME = 99;
    private static final int MAX_TOOL = 5;
    private static final int PRIORITIES = 4;
    private static final int CYCLE = 0;
    private static final int CHANGE = 1;
    private static final int TOOL_LIMIT = 2;
    private static final int STRICTNESS = 3;
    private static final int[] LOWEST_RULES = {10, 0, 1, 0};
    private static final int[] HIGHEST_RULES = {999, 20, 5, 1};
    private static final int ERROR_BASE = -100;
    private static final Command[] COMMANDS = Command.values();

    private final State now = new State();
    private final State saved = new State();
    private final Stations stations = new Stations(now);
    private final Plan plan = new Plan(now);
    private final History history = new History();
    private final Input input = new Input();
    private boolean isSaved;
    // 0 while no reason was kept
    private int keptReason;

    public LineBalancer() {
    }

    // ---- models and rules

    public int setModels(int count) throws IllegalArgumentException {
        checkArgument(isIn(count, 1, MODELS));
        remember();
        int previous = now.models;
        now.models = count;
        return previous;
    }

    public int setDemand(int model, int demand) throws IndexOutOfBoundsException, IllegalArgumentException {
        checkIndex(isIn(model, 0, MODELS - 1));
        checkArgument(isIn(demand, 1, MAX_DEMAND));
        remember();
        int previous = now.demands[model];
        now.demands[model] = demand;
        return previous;
    }

    public int setRule(int rule, int value) throws IllegalArgumentException {
        checkArgument(isRuleValue(rule, value));
        remember();
        int previous = now.rules[rule];
        now.rules[rule] = value;
        return previous;
    }

    public int rule(int what) throws IllegalArgumentException {
        checkArgument(isIn(what, 0, 8));
        if (what < 4) {
            return now.rules[what];
        }
        if (what == 4) {
            return now.models;
        }
        return what == 5 ? now.totalDemand() : now.demands[what - 6];
    }

    public int setCopies(int station, int copies) throws IndexOutOfBoundsException, IllegalArgumentException {
        checkIndex(isStation(station));
        checkArgument(isIn(copies, 1, MAX_COPIES));
        remember();
        int previous = now.copies[station];
        now.copies[station] = copies;
        return previous;
    }

    // ---- tasks

    public int addTask(int first, int second, int third, int tool)
            throws IllegalArgumentException, IllegalStateException {
        checkArgument(isTaskData(first, second, third, tool));
        checkState(now.taskCount < TASKS);
        remember();
        return now.append(first, second, third, tool);
    }

    public int setTime(int task, int model, int time) throws IndexOutOfBoundsException, IllegalArgumentException {
        checkIndex(now.hasTask(task) && isIn(model, 0, MODELS - 1));
        checkArgument(isTime(time));
        remember();
        int previous = now.times[task * MODELS + model];
        now.times[task * MODELS + model] = time;
        return previous;
    }

    public int setTool(int task, int tool) throws IndexOutOfBoundsException, IllegalArgumentException {
        checkIndex(now.hasTask(task));
        checkArgument(isTool(tool));
        remember();
        int previous = now.tools[task];
        now.tools[task] = tool;
        return previous;
    }

    public int before(int task, int other)
            throws IndexOutOfBoundsException, IllegalArgumentException, UnsupportedOperationException {
        checkIndex(now.hasTask(task) && now.hasTask(other));
        checkArgument(task != other && !now.isDirectlyBefore(task, other));
        checkSupported(!now.isBefore(other, task));
        remember();
        now.link(task, other);
        return Integer.bitCount(now.ahead[other]);
    }

    public int pair(int task, int other, boolean isApart) throws IndexOutOfBoundsException, IllegalArgumentException {
        checkIndex(now.hasTask(task) && now.hasTask(other));
        checkArgument(task != other);
        remember();
        int previous = now.pairKind(task, other);
        now.join(task, other, isApart);
        return previous;
    }

    public int drop(int task, int other) throws IndexOutOfBoundsException, NoSuchElementException {
        checkIndex(now.hasTask(task) && now.hasTask(other));
        int links = now.isDirectlyBefore(task, other) || now.isDirectlyBefore(other, task) ? 1 : 0;
        int pairs = now.pairKind(task, other) != 0 ? 2 : 0;
        checkElement(links + pairs > 0);
        remember();
        now.unlink(task, other);
        now.unpair(task, other);
        return links + pairs;
    }

    public int task(int task, int what) throws IndexOutOfBoundsException, IllegalArgumentException {
        checkIndex(now.hasTask(task));
        checkArgument(isIn(what, 0, 11));
        switch (what) {
            case 3:
                return now.tools[task];
            case 4:
                return now.weightedTime(task);
            case 5:
                return now.places[task];
            case 6:
                return now.ahead[task];
            case 7:
                return now.behind[task];
            case 8:
                return now.direct[task];
            case 9:
                return now.apart[task];
            case 10:
                return now.together[task];
            case 11:
                return stations.lowestFor(task);
            default:
                return now.times[task * MODELS + what];
        }
    }

    public int priority(int task, int priority) throws IndexOutOfBoundsException, IllegalArgumentException {
        checkIndex(now.hasTask(task));
        checkArgument(isPriority(priority));
        return now.priorityOf(task, priority);
    }

    public int size() {
        return now.taskCount;
    }

    // ---- the line

    public int assign(int task, int station) throws IndexOutOfBoundsException, UnsupportedOperationException {
        checkIndex(now.hasTask(task) && (station == NOWHERE || isStation(station)));
        int refusal = station == NOWHERE ? 0 : stations.refusal(task, station);
        keepReason(refusal);
        checkSupported(refusal == 0);
        remember();
        int previous = now.places[task];
        now.places[task] = station;
        return previous;
    }

    public int reason(int task, int station) throws IndexOutOfBoundsException {
        checkIndex(now.hasTask(task) && isStation(station));
        return stations.refusal(task, station);
    }

    public int whyNot() throws NoSuchElementException {
        checkElement(keptReason != 0);
        return keptReason;
    }

    public int station(int station, int what) throws IndexOutOfBoundsException, IllegalArgumentException {
        checkIndex(isStation(station));
        checkArgument(isIn(what, 0, 5));
        switch (what) {
            case 0:
                return stations.tasksIn(station, station);
            case 1:
                return now.copies[station];
            case 2:
                return stations.loadOf(station);
            case 3:
                return stations.isFitting(station) ? 1 : 0;
            case 4:
                return stations.workIn(station).tools;
            default:
                return stations.lackOf(station);
        }
    }

    public int time(int station, int model, boolean isChanges) throws IndexOutOfBoundsException {
        checkIndex(isStation(station) && isIn(model, 0, now.models - 1));
        Work work = stations.workIn(station);
        return isChanges ? work.changes[model] : work.times[model];
    }

    public int sequence(int station, int place) throws IndexOutOfBoundsException, NoSuchElementException {
        checkIndex(isStation(station));
        Work work = stations.workIn(station);
        checkElement(isIn(place, 0, work.count - 1));
        return work.order[place];
    }

    public int line(int what) throws IllegalArgumentException {
        checkArgument(isIn(what, 0, 7));
        switch (what) {
            case 0:
                return stations.countUsed();
            case 1:
                return stations.usedCopies();
            case 2:
                return Integer.bitCount(stations.placed());
            case 3:
                return stations.busiest();
            case 4:
                return stations.sumOfLoads();
            case 5:
                return stations.countRefused();
            case 6:
                return stations.countUnfitting();
            default:
                return quotientUp(now.weightedTimes(ALL_TASKS), now.capacity(1));
        }
    }

    public float efficiency() throws ArithmeticException {
        int capacity = now.capacity(stations.usedCopies());
        if (capacity <= 0) {
            throw new ArithmeticException("no station has tasks");
        }
        return (float) now.weightedTimes(stations.placed()) / (float) capacity;
    }

    public long unevenness() {
        return stations.sumOfSquares();
    }

    public int clearLine() {
        remember();
        int count = Integer.bitCount(stations.placed());
        now.takeAllOut();
        return count;
    }

    public int fill(int priority) throws IllegalArgumentException, UnsupportedOperationException {
        checkArgument(isPriority(priority));
        history.begin(now);
        int refusal = stations.fillBy(priority);
        if (refusal != 0) {
            history.cancel(now);
        }
        keepReason(refusal);
        checkSupported(refusal == 0);
        history.finish();
        return stations.countUsed();
    }

    // ---- least lines

    public int least() throws IllegalStateException, NoSuchElementException {
        checkState(now.taskCount <= Plan.LIMIT);
        int count = plan.findLeast();
        checkElement(count >= 0);
        return count;
    }

    public long ways(int stations) throws IllegalArgumentException, IllegalStateException {
        checkArgument(isIn(stations, 0, STATIONS));
        checkState(now.taskCount <= Plan.LIMIT);
        return plan.countLines(stations);
    }

    public int takeLeast() throws IllegalStateException, NoSuchElementException {
        checkState(now.taskCount <= Plan.LIMIT);
        checkElement(plan.findLeast() >= 0);
        remember();
        int moved = 0;
        for (int task = 0; task < now.taskCount; task++) {
            int station = plan.stationOf(task);
            moved += now.places[task] == station ? 0 : 1;
            now.places[task] = station;
        }
        return moved;
    }

    // ---- commands

    public int feed(char character) throws IllegalStateException {
        checkState(input.length < Input.CAPACITY);
        input.append(character);
        return input.length;
    }

    public int read() throws UnsupportedOperationException {
        int wrong = input.errorPosition();
        if (wrong >= 0) {
            input.clear();
            return ERROR_BASE - wrong;
        }
        history.begin(now);
        int count = carryOutAll();
        input.clear();
        if (count < 0) {
            history.cancel(now);
        }
        checkSupported(count >= 0);
        history.finish();
        return count;
    }

    // ---- undo and the snapshot

    public int undo() throws IllegalStateException {
        checkState(history.count > 0);
        history.stepBack(now);
        return history.count;
    }

    public int save() {
        saved.copyFrom(now);
        isSaved = true;
        return now.taskCount;
    }

    public int restore() throws IllegalStateException {
        checkState(isSaved);
        now.copyFrom(saved);
        history.clear();
        return now.taskCount;
    }

    // ---- checks

    private static void checkIndex(boolean isRight) {
        if (!isRight) {
            throw new IndexOutOfBoundsException("there is no such task, station or model");
        }
    }

    private static void checkArgument(boolean isRight) {
        if (!isRight) {
            throw new IllegalArgumentException("an argument is out of range");
        }
    }

    private static void checkState(boolean isRight) {
        if (!isRight) {
            throw new IllegalStateException("the call is not possible now");
        }
    }

    private static void checkSupported(boolean isRight) {
        if (!isRight) {
            throw new UnsupportedOperationException("the call is refused");
        }
    }

    private static void checkElement(boolean isRight) {
        if (!isRight) {
            throw new NoSuchElementException("there is nothing to answer");
        }
    }

    private static boolean isIn(int number, int lowest, int highest) {
        return number >= lowest && number <= highest;
    }

    private static boolean isStation(int station) {
        return isIn(station, 0, STATIONS - 1);
    }

    private static boolean isPriority(int priority) {
        return isIn(priority, 0, PRIORITIES - 1);
    }

    private static boolean isTime(int time) {
        return isIn(time, 0, MAX_TIME);
    }

    private static boolean isTool(int tool) {
        return isIn(tool, 0, MAX_TOOL);
    }

    private static boolean isTaskData(int first, int second, int third, int tool) {
        return isTime(first) && isTime(second) && isTime(third) && isTool(tool);
    }

    private static boolean isRuleValue(int rule, int value) {
        return isIn(rule, CYCLE, STRICTNESS) && isIn(value, LOWEST_RULES[rule], HIGHEST_RULES[rule]);
    }

    private static int quotientUp(int dividend, int divisor) {
        return divisor <= 0 ? 0 : (dividend + divisor - 1) / divisor;
    }

    private static boolean has(int set, int member) {
        return (set >> member & 1) != 0;
    }

    // ---- changes

    private void remember() {
        history.begin(now);
        history.finish();
    }

    // a call that is not refused leaves the reason of an earlier one
    private void keepReason(int refusal) {
        if (refusal != 0) {
            keptReason = refusal;
        }
    }

    // answers the number of commands, or -1 when the method of one would throw
    private int carryOutAll() {
        input.rewind();
        boolean isMore = true;
        int count = 0;
        while (isMore && count < Input.CAPACITY) {
            if (!input.passCommand() || !isCarriedOut()) {
                return -1;
            }
            count++;
            isMore = input.passSign(';');
        }
        return count;
    }

    private boolean isCarriedOut() {
        Command command = input.command;
        int first = input.numbers[0];
        int second = input.numbers[1];
        if (command == Command.TASK) {
            return isAdded(first, second, input.numbers[2], input.numbers[3]);
        }
        if (command == Command.BEFORE) {
            return isLinked(first, second);
        }
        if (command == Command.PUT) {
            return isPut(first, second);
        }
        if (command == Command.CYCLE) {
            return isCycleSet(first);
        }
        return isPaired(first, second, command == Command.APART);
    }

    private boolean isAdded(int first, int second, int third, int tool) {
        if (!isTaskData(first, second, third, tool) || now.taskCount >= TASKS) {
            return false;
        }
        now.append(first, second, third, tool);
        return true;
    }

    private boolean isLinked(int task, int other) {
        if (!now.hasTask(task) || !now.hasTask(other) || task == other) {
            return false;
        }
        if (now.isDirectlyBefore(task, other) || now.isBefore(other, task)) {
            return false;
        }
        now.link(task, other);
        return true;
    }

    private boolean isPaired(int task, int other, boolean isApart) {
        if (!now.hasTask(task) || !now.hasTask(other) || task == other) {
            return false;
        }
        now.join(task, other, isApart);
        return true;
    }

    private boolean isPut(int task, int station) {
        if (!now.hasTask(task) || !isStation(station)) {
            return false;
        }
        int refusal = stations.refusal(task, station);
        keepReason(refusal);
        if (refusal == 0) {
            now.places[task] = station;
        }
        return refusal == 0;
    }

    private boolean isCycleSet(int value) {
        if (!isRuleValue(CYCLE, value)) {
            return false;
        }
        now.rules[CYCLE] = value;
        return true;
    }

    /** Models, rules, stations and tasks: all that undo and the snapshot bring back. */
    private static final class State {
        int models = 1;
        int taskCount;
        final int[] demands = new int[MODELS];
        final int[] rules = new int[STRICTNESS + 1];
        final int[] copies = new int[STATIONS];
        final int[] times = new int[TASKS * MODELS];
        final int[] tools = new int[TASKS];
        final int[] places = new int[TASKS];
        // a set of tasks for each task, as bits
        final int[] direct = new int[TASKS];
        final int[] ahead = new int[TASKS];
        final int[] behind = new int[TASKS];
        final int[] apart = new int[TASKS];
        final int[] together = new int[TASKS];

        State() {
            Arrays.fill(demands, 1);
            Arrays.fill(copies, 1);
            Arrays.fill(places, NOWHERE);
            rules[CYCLE] = 60;
            rules[CHANGE] = 2;
            rules[TOOL_LIMIT] = 5;
        }

        void copyFrom(State other) {
            models = other.models;
            taskCount = other.taskCount;
            copyRow(other.demands, demands);
            copyRow(other.rules, rules);
            copyRow(other.copies, copies);
            copyRow(other.times, times);
            copyRow(other.tools, tools);
            copyRow(other.places, places);
            copyRow(other.direct, direct);
            copyRow(other.ahead, ahead);
            copyRow(other.behind, behind);
            copyRow(other.apart, apart);
            copyRow(other.together, together);
        }

        private static void copyRow(int[] from, int[] to) {
            System.arraycopy(from, 0, to, 0, Math.min(from.length, to.length));
        }

        boolean hasTask(int task) {
            return isIn(task, 0, taskCount - 1);
        }

        int totalDemand() {
            int sum = 0;
            for (int model = 0; model < models; model++) {
                sum += demands[model];
            }
            return sum;
        }

        // what so many copies can bear on average
        int capacity(int copiesInAll) {
            return copiesInAll * rules[CYCLE] * totalDemand();
        }

        int weightedTime(int task) {
            int sum = 0;
            for (int model = 0; model < models; model++) {
                sum += demands[model] * times[task * MODELS + model];
            }
            return sum;
        }

        int weightedTimes(int set) {
            int sum = 0;
            for (int task = 0; task < taskCount; task++) {
                sum += has(set, task) ? weightedTime(task) : 0;
            }
            return sum;
        }

        int priorityOf(int task, int priority) {
            switch (priority) {
                case 0:
                    return weightedTime(task) + weightedTimes(behind[task]);
                case 1:
                    return weightedTime(task);
                case 2:
                    return Integer.bitCount(behind[task]);
                default:
                    return 0;
            }
        }

        int append(int first, int second, int third, int tool) {
            int task = taskCount;
            taskCount++;
            times[task * MODELS] = first;
            times[task * MODELS + 1] = second;
            times[task * MODELS + 2] = third;
            tools[task] = tool;
            return task;
        }

        boolean isDirectlyBefore(int task, int other) {
            return has(direct[other], task);
        }

        boolean isBefore(int task, int other) {
            return has(ahead[other], task);
        }

        void link(int task, int other) {
            direct[other] |= 1 << task;
            followChains();
        }

        void unlink(int task, int other) {
            direct[other] &= ~(1 << task);
            direct[task] &= ~(1 << other);
            followChains();
        }

        private void followChains() {
            System.arraycopy(direct, 0, ahead, 0, TASKS);
            for (int middle = 0; middle < TASKS; middle++) {
                for (int task = 0; task < TASKS; task++) {
                    ahead[task] |= has(ahead[task], middle) ? ahead[middle] : 0;
                }
            }
            Arrays.fill(behind, 0);
            for (int task = 0; task < TASKS; task++) {
                for (int other = 0; other < TASKS; other++) {
                    behind[task] |= has(ahead[other], task) ? 1 << other : 0;
                }
            }
        }

        // 0 for no pair, 1 for apart, 2 for together
        int pairKind(int task, int other) {
            if (has(apart[task], other)) {
                return 1;
            }
            return has(together[task], other) ? 2 : 0;
        }

        void join(int task, int other, boolean isApart) {
            unpair(task, other);
            int[] partners = isApart ? apart : together;
            partners[task] |= 1 << other;
            partners[other] |= 1 << task;
        }

        void unpair(int task, int other) {
            apart[task] &= ~(1 << other);
            apart[other] &= ~(1 << task);
            together[task] &= ~(1 << other);
            together[other] &= ~(1 << task);
        }

        void takeAllOut() {
            Arrays.fill(places, NOWHERE);
        }
    }

    /** What a set of tasks means for the one station that has it. */
    private static final class Work {
        final int[] order = new int[TASKS];
        final int[] changes = new int[MODELS];
        final int[] times = new int[MODELS];
        int count;
        int tools;
        int load;
        int longest;
        private int demand;

        void measure(State state, int set) {
            arrange(state, set);
            collectTools(state);
            load = 0;
            longest = 0;
            demand = 0;
            for (int model = 0; model < state.models; model++) {
                changes[model] = countChanges(state, model);
                times[model] = sumTimes(state, model) + changes[model] * state.rules[CHANGE];
                load += state.demands[model] * times[model];
                longest = Math.max(longest, times[model]);
                demand += state.demands[model];
            }
        }

        // what the load lacks to what so many copies can bear on average
        int lack(State state, int copies) {
            return copies * state.rules[CYCLE] * demand - load;
        }

        boolean isWithinToolLimit(State state) {
            return Integer.bitCount(tools) <= state.rules[TOOL_LIMIT];
        }

        boolean fits(State state, int copies) {
            if (state.rules[STRICTNESS] == 1) {
                return longest <= copies * state.rules[CYCLE];
            }
            return lack(state, copies) >= 0;
        }

        private void arrange(State state, int set) {
            int left = set;
            count = 0;
            for (int place = 0; place < TASKS && left != 0; place++) {
                int task = 0;
                while (task < TASKS - 1 && ((left >> task & 1) == 0 || (state.ahead[task] & left) != 0)) {
                    task++;
                }
                order[place] = task;
                count++;
                left &= ~(1 << task);
            }
        }

        private void collectTools(State state) {
            tools = 0;
            for (int place = 0; place < count; place++) {
                int tool = state.tools[order[place]];
                tools |= tool == 0 ? 0 : 1 << tool;
            }
        }

        private int sumTimes(State state, int model) {
            int sum = 0;
            for (int place = 0; place < count; place++) {
                sum += state.times[order[place] * MODELS + model];
            }
            return sum;
        }

        private int countChanges(State state, int model) {
            int first = 0;
            int last = 0;
            int number = 0;
            for (int place = 0; place < count; place++) {
                int tool = state.tools[order[place]];
                if (tool != 0 && state.times[order[place] * MODELS + model] > 0) {
                    number += last != 0 && tool != last ? 1 : 0;
                    first = first == 0 ? tool : first;
                    last = tool;
                }
            }
            return last == first ? number : number + 1;
        }
    }

    /** The stations with their tasks: what they bear, what they refuse, and how they are filled. */
    private static final class Stations {
        private final State state;
        private final Work work = new Work();

        Stations(State state) {
            this.state = state;
        }

        int tasksIn(int lowest, int highest) {
            int set = 0;
            for (int task = 0; task < TASKS; task++) {
                set |= isIn(state.places[task], lowest, highest) ? 1 << task : 0;
            }
            return set;
        }

        int placed() {
            return tasksIn(0, STATIONS - 1);
        }

        boolean isUsed(int station) {
            return tasksIn(station, station) != 0;
        }

        Work workIn(int station) {
            work.measure(state, tasksIn(station, station));
            return work;
        }

        int loadOf(int station) {
            return workIn(station).load;
        }

        int lackOf(int station) {
            return workIn(station).lack(state, state.copies[station]);
        }

        boolean isFitting(int station) {
            return workIn(station).fits(state, state.copies[station]);
        }

        int refusal(int task, int station) {
            int lower = tasksIn(0, station - 1);
            int here = tasksIn(station, station);
            int higher = tasksIn(station + 1, STATIONS - 1);
            if ((state.ahead[task] & higher) != 0) {
                return 1;
            }
            if ((state.behind[task] & lower) != 0) {
                return 2;
            }
            if ((state.apart[task] & here) != 0) {
                return 3;
            }
            if ((state.together[task] & (lower | higher)) != 0) {
                return 4;
            }
            work.measure(state, here | 1 << task);
            if (!work.isWithinToolLimit(state)) {
                return 5;
            }
            return work.fits(state, state.copies[station]) ? 0 : 6;
        }

        int lowestFor(int task) {
            for (int station = 0; station < STATIONS; station++) {
                if (refusal(task, station) == 0) {
                    return station;
                }
            }
            return NOWHERE;
        }

        // answers 0, or the reason of the last station when all stations refuse a task
        int fillBy(int priority) {
            state.takeAllOut();
            for (int count = 0; count < state.taskCount; count++) {
                int task = nextToFill(priority);
                int station = lowestFor(task);
                if (station == NOWHERE) {
                    return refusal(task, STATIONS - 1);
                }
                state.places[task] = station;
            }
            return 0;
        }

        private int nextToFill(int priority) {
            int done = placed();
            int best = 0;
            int greatest = -1;
            for (int task = 0; task < state.taskCount; task++) {
                if (!has(done, task) && (state.ahead[task] & ~done) == 0) {
                    int value = state.priorityOf(task, priority);
                    best = value > greatest ? task : best;
                    greatest = Math.max(greatest, value);
                }
            }
            return best;
        }

        int countUsed() {
            int count = 0;
            for (int station = 0; station < STATIONS; station++) {
                count += isUsed(station) ? 1 : 0;
            }
            return count;
        }

        int usedCopies() {
            int sum = 0;
            for (int station = 0; station < STATIONS; station++) {
                sum += isUsed(station) ? state.copies[station] : 0;
            }
            return sum;
        }

        int busiest() {
            int best = 0;
            int greatest = loadOf(0);
            for (int station = 1; station < STATIONS; station++) {
                int load = loadOf(station);
                if (load * state.copies[best] > greatest * state.copies[station]) {
                    best = station;
                    greatest = load;
                }
            }
            return best;
        }

        int sumOfLoads() {
            int sum = 0;
            for (int station = 0; station < STATIONS; station++) {
                sum += loadOf(station);
            }
            return sum;
        }

        int countRefused() {
            int count = 0;
            for (int task = 0; task < state.taskCount; task++) {
                int station = state.places[task];
                count += isStation(station) && refusal(task, station) != 0 ? 1 : 0;
            }
            return count;
        }

        int countUnfitting() {
            int count = 0;
            for (int station = 0; station < STATIONS; station++) {
                count += isFitting(station) ? 0 : 1;
            }
            return count;
        }

        long sumOfSquares() {
            long sum = 0;
            for (int station = 0; station < STATIONS; station++) {
                long lack = isUsed(station) ? lackOf(station) : 0;
                sum += lack * lack;
            }
            return sum;
        }
    }

    /**
     * All lines of few tasks, station by station: for each set of tasks the number of ways to have
     * it in the stations so far, and the first of these ways.
     */
    private static final class Plan {
        static final int LIMIT = 8;
        private static final int SETS = 1 << LIMIT;
        private static final int NEVER = MAX_COPIES + 1;

        private final State state;
        private final Work work = new Work();
        // the copies that a station needs to have just the tasks of a set
        private final int[] need = new int[SETS];
        // whether a set has all tasks that are before one of its tasks
        private final boolean[] isClosed = new boolean[SETS];
        private final long[] count = new long[SETS];
        // the stations of the tasks as digits, those of the task 0 first: the least number is the
        // first line; -1 while there is none
        private final int[] first = new int[SETS];
        private final int[] digits = new int[SETS];
        private int full;

        Plan(State state) {
            this.state = state;
        }

        // answers the least number of stations, or -1
        int findLeast() {
            prepare();
            for (int station = 0; station < STATIONS; station++) {
                if (count[full] > 0) {
                    return station;
                }
                addStation(station);
            }
            return count[full] > 0 ? STATIONS : -1;
        }

        long countLines(int stations) {
            prepare();
            for (int station = 0; station < stations && station < STATIONS; station++) {
                addStation(station);
            }
            return count[full];
        }

        int stationOf(int task) {
            return first[full] >> digitShift(task) & STATIONS - 1;
        }

        private static int digitShift(int task) {
            return 3 * (LIMIT - 1 - task);
        }

        private void prepare() {
            full = (1 << Math.min(state.taskCount, LIMIT)) - 1;
            for (int set = 0; set <= full; set++) {
                need[set] = copiesNeeded(set);
                isClosed[set] = hasAllAhead(set);
                digits[set] = digitsOf(set);
                count[set] = 0;
                first[set] = -1;
            }
            count[0] = 1;
            first[0] = 0;
        }

        private int copiesNeeded(int set) {
            if (isSplit(set)) {
                return NEVER;
            }
            work.measure(state, set);
            if (!work.isWithinToolLimit(state)) {
                return NEVER;
            }
            int copies = 1;
            while (copies < NEVER && !work.fits(state, copies)) {
                copies++;
            }
            return copies;
        }

        private boolean isSplit(int set) {
            for (int task = 0; task < LIMIT; task++) {
                if (has(set, task) && ((state.apart[task] & set) != 0 || (state.together[task] & ~set) != 0)) {
                    return true;
                }
            }
            return false;
        }

        private boolean hasAllAhead(int set) {
            for (int task = 0; task < LIMIT; task++) {
                if (has(set, task) && (state.ahead[task] & ~set) != 0) {
                    return false;
                }
            }
            return true;
        }

        private static int digitsOf(int set) {
            int sum = 0;
            for (int task = 0; task < LIMIT; task++) {
                sum += has(set, task) ? 1 << digitShift(task) : 0;
            }
            return sum;
        }

        // from the greatest set down, so that the smaller sets still are as without the station
        private void addStation(int station) {
            for (int set = full; set > 0; set--) {
                if (isClosed[set]) {
                    extend(set, station);
                }
            }
        }

        private void extend(int set, int station) {
            int copies = state.copies[station];
            int part = set;
            for (int left = 1 << Integer.bitCount(set); left > 1; left--) {
                int rest = set & ~part;
                if (need[part] <= copies && count[rest] > 0) {
                    count[set] += count[rest];
                    int way = first[rest] + station * digits[part];
                    first[set] = first[set] < 0 ? way : Math.min(first[set], way);
                }
                part = part - 1 & set;
            }
        }
    }

    /** The states before the latest changes. */
    private static final class History {
        private static final int LIMIT = 8;
        // one more, so that a change that fails costs none of the others
        private static final int SLOTS = LIMIT + 1;

        private final State[] slots = new State[SLOTS];
        private int next;
        int count;

        History() {
            for (int slot = 0; slot < SLOTS; slot++) {
                slots[slot] = new State();
            }
        }

        void begin(State state) {
            slots[next].copyFrom(state);
        }

        void finish() {
            next = next + 1 < SLOTS ? next + 1 : 0;
            count = Math.min(count + 1, LIMIT);
        }

        void cancel(State state) {
            state.copyFrom(slots[next]);
        }

        void stepBack(State state) {
            next = next > 0 ? next - 1 : SLOTS - 1;
            count--;
            state.copyFrom(slots[next]);
        }

        void clear() {
            count = 0;
        }
    }

    /** A word that begins a command, and how many numbers follow it. */
    private enum Command {
        TASK("task", 4),
        BEFORE("before", 2),
        APART("apart", 2),
        TOGETHER("together", 2),
        PUT("put", 2),
        CYCLE("cycle", 1);

        final String word;
        final int numbers;

        Command(String word, int numbers) {
            this.word = word;
            this.numbers = numbers;
        }
    }

    /** The input, and the place up to which it has been read as commands. */
    private static final class Input {
        static final int CAPACITY = 80;
        private static final int MAX_NUMBERS = 4;
        private static final int MAX_DIGITS = 3;

        private final char[] characters = new char[CAPACITY];
        final int[] numbers = new int[MAX_NUMBERS];
        int length;
        Command command;
        private int position;

        void append(char character) {
            if (length < CAPACITY) {
                characters[length] = character;
                length++;
            }
        }

        void clear() {
            length = 0;
        }

        void rewind() {
            position = 0;
        }

        // answers -1 when the input is right
        int errorPosition() {
            rewind();
            boolean isMore = true;
            for (int count = 0; isMore && count < CAPACITY; count++) {
                if (!passCommand()) {
                    return position;
                }
                isMore = passSign(';');
            }
            return position < length ? position : -1;
        }

        // this pass and the others answer false at an error, and leave the position there
        boolean passCommand() {
            if (!passWord() || command == null) {
                return false;
            }
            for (int index = 0; index < command.numbers; index++) {
                if (!passNumber(index)) {
                    return false;
                }
            }
            return true;
        }

        boolean passSign(char sign) {
            if (position >= length || characters[position] != sign) {
                return false;
            }
            position++;
            return true;
        }

        private boolean passWord() {
            int end = position;
            while (end < length && isBetween(end, 'a', 'z')) {
                end++;
            }
            command = commandAt(position, end);
            if (command == null) {
                return false;
            }
            position = end;
            return true;
        }

        private boolean passNumber(int index) {
            if (!passSign(' ') || index >= MAX_NUMBERS) {
                return false;
            }
            int start = position;
            int value = 0;
            while (position < length && position < start + MAX_DIGITS && isBetween(position, '0', '9')) {
                value = value * 10 + characters[position] - '0';
                position++;
            }
            numbers[index] = value;
            return position > start;
        }

        private boolean isBetween(int place, char lowest, char highest) {
            return characters[place] >= lowest && characters[place] <= highest;
        }

        private Command commandAt(int start, int end) {
            for (int index = 0; index < COMMANDS.length; index++) {
                if (isWord(COMMANDS[index].word, start, end)) {
                    return COMMANDS[index];
                }
            }
            return null;
        }

        private boolean isWord(String word, int start, int end) {
            if (word.length() != end - start) {
                return false;
            }
            for (int index = 0; index < word.length(); index++) {
                if (characters[start + index] != word.charAt(index)) {
                    return false;
                }
            }
            return true;
        }
    }
}
