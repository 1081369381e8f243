import java.util.List;

/** A test for each sentence of the promises 7 to 15 that names a boundary case. */
public final class TasksBoundaryTests extends Checks {
    public static void main(String[] args) throws Exception {
        runAll(TasksBoundaryTests.class, List.of("Promise 7", "Promise 8", "Promise 9", "Promise 10", "Promise 11",
                "Promise 12", "Promise 13", "Promise 14", "Promise 15"));
    }

    private static final int[] OUTSIDE = {Integer.MIN_VALUE, -1000000, -1, 1000000, Integer.MAX_VALUE};
    private static final CallOf PAIRS_OF_0_AND_1 = x -> x.task(0, 9) + " " + x.task(0, 10) + " " + x.task(1, 9) + " "
            + x.task(1, 10);

    /** A chain of so many tasks, each of the time 1. */
    private static LineBalancer chain(int count) {
        LineBalancer x = withTasks(count, 1);
        for (int task = 1; task < count; task++) {
            x.before(task - 1, task);
        }
        return x;
    }

    // ---- Promise 7

    @Says(part = "Promise 7", quote = "Adds a task, which is in no station.")
    static void aNewTaskIsInNoStation() {
        LineBalancer x = new LineBalancer();
        for (int task = 0; task < 12; task++) {
            x.addTask(1, 1, 1, 1);
            due(-1, x.task(task, 5));
            x.assign(task, task % 8);
        }
        x.undo();
        x.undo();
        // the number of a task that was taken back: in no station, whatever the old one was
        due(11, x.addTask(1, 1, 1, 1));
        due(-1, x.task(11, 5));
    }

    @Says(part = "Promise 7", quote = "Adds a task")
    static void aNewTaskHasNothingOfATaskThatWasUndone() {
        LineBalancer x = withTasks(3, 5);
        x.before(0, 2);
        x.before(2, 1);
        x.undo();
        x.undo();
        x.pair(2, 0, true);
        x.pair(2, 1, false);
        x.assign(2, 4);
        for (int i = 0; i < 4; i++) {
            x.undo();
        }
        due(2, x.size());
        due(2, x.addTask(7, 0, 0, 0));
        due("-1 0 0 0 0 0", x.task(2, 5) + " " + x.task(2, 6) + " " + x.task(2, 7) + " " + x.task(2, 8) + " "
                + x.task(2, 9) + " " + x.task(2, 10));
        due(0, x.station(4, 0));
    }

    @Says(part = "Promise 7", quote = "its time in the model 0")
    static void theFirstNumberIsTheTimeInTheModel0() {
        checkTime(0);
    }

    @Says(part = "Promise 7", quote = "its time in the model 1")
    static void theSecondNumberIsTheTimeInTheModel1() {
        checkTime(1);
    }

    @Says(part = "Promise 7", quote = "its time in the model 2")
    static void theThirdNumberIsTheTimeInTheModel2() {
        checkTime(2);
    }

    private static void checkTime(int model) {
        LineBalancer x = new LineBalancer();
        for (int time : new int[] {0, 1, 99}) {
            int[] times = {50, 50, 50};
            times[model] = time;
            int task = x.addTask(times[0], times[1], times[2], 0);
            for (int m = 0; m < 3; m++) {
                due(times[m], x.task(task, m));
            }
        }
        for (int time : new int[] {-1, 100}) {
            int[] times = {50, 50, 50};
            times[model] = time;
            thrown(ARGUMENT, () -> x.addTask(times[0], times[1], times[2], 0));
        }
        due(3, x.size());
    }

    @Says(part = "Promise 7", quote = "its tool.")
    static void theFourthNumberIsTheTool() {
        LineBalancer x = withTools(0, 1, 2, 3, 4, 5);
        for (int task = 0; task < 6; task++) {
            due(task, x.task(task, 3));
        }
    }

    @Says(part = "Promise 7", quote = "Returns its number.")
    static void theNumbersGoFrom0To11() {
        LineBalancer x = new LineBalancer();
        for (int task = 0; task < 12; task++) {
            due(task, x.addTask(0, 0, 0, 0));
        }
    }

    @Says(part = "Promise 7", quote = "Throws IllegalArgumentException if a time or the tool is out of range")
    static void aTimeOrAToolOutOfRangeIsRefused() {
        LineBalancer x = new LineBalancer();
        for (int v : OUTSIDE) {
            thrown(ARGUMENT, () -> x.addTask(v, 0, 0, 0));
            thrown(ARGUMENT, () -> x.addTask(0, v, 0, 0));
            thrown(ARGUMENT, () -> x.addTask(0, 0, v, 0));
            thrown(ARGUMENT, () -> x.addTask(0, 0, 0, v));
        }
        thrown(ARGUMENT, () -> x.addTask(0, 0, 0, 6));
        thrown(ARGUMENT, () -> x.addTask(100, 0, 0, 0));
        due(0, x.size());
    }

    @Says(part = "Promise 7", quote = "Throws IllegalStateException if there are 12 tasks")
    static void theThirteenthTaskIsRefused() {
        LineBalancer x = withTasks(12, 1);
        thrown(STATE, () -> x.addTask(0, 0, 0, 0));
        thrown(STATE, () -> x.addTask(99, 99, 99, 5));
        due(12, x.size());
        x.undo();
        due(11, x.addTask(0, 0, 0, 0));
        thrown(STATE, () -> x.addTask(0, 0, 0, 0));
    }

    // ---- Promise 8

    @Says(part = "Promise 8", quote = "Sets the time of a task in a model, in use or not.")
    static void aTimeInAModelThatIsNotInUseIsSet() {
        LineBalancer x = withTasks(12, 1);
        x.setTime(11, 2, 44);
        x.setTime(11, 1, 33);
        due("1 33 44", x.task(11, 0) + " " + x.task(11, 1) + " " + x.task(11, 2));
        due(1, x.task(11, 4));
        x.setModels(3);
        due(78, x.task(11, 4));
        due("1 0 0", x.task(10, 0) + " " + x.task(10, 1) + " " + x.task(10, 2));
    }

    @Says(part = "Promise 8", quote = "The task stays in its station, even if this does not fit then.")
    static void aTaskThatDoesNotFitAnyMoreStays() {
        LineBalancer x = withTasks(1, 60);
        x.assign(0, 7);
        due(60, x.setTime(0, 0, 61));
        due(7, x.task(0, 5));
        due(0, x.station(7, 3));
        due(1, x.line(5));
    }

    @Says(part = "Promise 8", quote = "the model, 0 to 2")
    static void theModels0And2HaveATime() {
        LineBalancer x = withTasks(1, 0);
        x.setTime(0, 0, 5);
        x.setTime(0, 2, 6);
        due("5 0 6", x.task(0, 0) + " " + x.task(0, 1) + " " + x.task(0, 2));
    }

    @Says(part = "Promise 8", quote = "Returns the previous time.")
    static void setTimeReturnsThePreviousTime() {
        LineBalancer x = withTasks(1, 0);
        for (int model = 0; model < 3; model++) {
            due(0, x.setTime(0, model, 99));
            due(99, x.setTime(0, model, 99));
            due(99, x.setTime(0, model, 0));
        }
    }

    @Says(part = "Promise 8", quote = "Throws IndexOutOfBoundsException if there is no such task or model")
    static void timesOfOtherTasksAndModelsDoNotExist() {
        LineBalancer x = withTasks(2, 1);
        thrown(INDEX, () -> x.setTime(2, 0, 5));
        thrown(INDEX, () -> x.setTime(11, 0, 5));
        thrown(INDEX, () -> x.setTime(0, 3, 5));
        for (int v : OUTSIDE) {
            thrown(INDEX, () -> x.setTime(v, 0, 5));
            thrown(INDEX, () -> x.setTime(0, v, 5));
        }
        // what would be the place of the task 1 in one row of all times
        thrown(INDEX, () -> x.setTime(2, -3, 5));
        thrown(INDEX, () -> x.setTime(-1, 4, 5));
        due("1 1", x.task(0, 0) + " " + x.task(1, 0));
    }

    @Says(part = "Promise 8", quote = "Throws IllegalArgumentException if the time is out of range")
    static void theTimesMinus1And100AreOutOfRange() {
        LineBalancer x = withTasks(1, 1);
        for (int m = 0; m < 3; m++) {
            int model = m;
            thrown(ARGUMENT, () -> x.setTime(0, model, 100));
            for (int time : OUTSIDE) {
                thrown(ARGUMENT, () -> x.setTime(0, model, time));
            }
        }
        due(1, x.task(0, 0));
    }

    // ---- Promise 9

    @Says(part = "Promise 9", quote = "Sets the tool of a task, which stays in its station.")
    static void aTaskStaysWhereItsToolIsTooMuch() {
        LineBalancer x = put(withTools(1, 1, 0), 7, 7, 7);
        x.setRule(2, 1);
        x.setTool(1, 5);
        due("7 7 7", placesOf(x));
        due(3, x.line(5));
        due(5, x.reason(1, 7));
        x.setTool(1, 0);
        due(0, x.line(5));
        due("1 0 0", x.task(0, 3) + " " + x.task(1, 3) + " " + x.task(2, 3));
    }

    @Says(part = "Promise 9", quote = "Returns the previous tool.")
    static void setToolReturnsThePreviousTool() {
        LineBalancer x = withTools(0);
        due(0, x.setTool(0, 5));
        due(5, x.setTool(0, 5));
        due(5, x.setTool(0, 0));
        due(0, x.setTool(0, 1));
    }

    @Says(part = "Promise 9", quote = "Throws IndexOutOfBoundsException if there is no such task")
    static void toolsOfOtherTasksDoNotExist() {
        LineBalancer x = withTools(1, 2);
        thrown(INDEX, () -> x.setTool(2, 3));
        for (int task : OUTSIDE) {
            thrown(INDEX, () -> x.setTool(task, 3));
        }
        thrown(INDEX, () -> new LineBalancer().setTool(0, 0));
    }

    @Says(part = "Promise 9", quote = "Throws IllegalArgumentException if the tool is out of range")
    static void theToolsMinus1And6AreOutOfRange() {
        LineBalancer x = withTools(1);
        thrown(ARGUMENT, () -> x.setTool(0, 6));
        for (int tool : OUTSIDE) {
            thrown(ARGUMENT, () -> x.setTool(0, tool));
        }
        due(1, x.task(0, 3));
    }

    // ---- Promise 10

    @Says(part = "Promise 10", quote = "Puts a task directly before another one.")
    static void theFirstAndTheLastTaskAreLinked() {
        LineBalancer x = withTasks(12, 1);
        due(1, x.before(0, 11));
        due(2, x.before(11, 10));
        due(1, x.task(11, 8));
        due(1 << 11, x.task(10, 8));
        due(1 + (1 << 11), x.task(10, 6));
        due((1 << 11) + (1 << 10), x.task(0, 7));
    }

    @Says(part = "Promise 10", quote = "Both stay in their stations.")
    static void bothTasksStayThoughTheyAreRefused() {
        LineBalancer x = put(withTasks(2, 1), 7, 0);
        x.before(0, 1);
        due("7 0", placesOf(x));
        due(2, x.reason(0, 7));
        due(1, x.reason(1, 0));
    }

    @Says(part = "Promise 10", quote = "Returns the number of tasks that are before the latter one then.")
    static void theChainsOfBothCount() {
        LineBalancer x = withTasks(12, 1);
        for (int task = 1; task < 11; task++) {
            due(task, x.before(task - 1, task));
        }
        due(11, x.before(10, 11));
        // a task that is before it already by a chain makes no difference
        due(11, x.before(0, 11));
        LineBalancer y = withTasks(4, 1);
        due(1, y.before(0, 3));
        due(2, y.before(1, 3));
        due(1, y.before(2, 1));
        due(3, y.before(2, 3));
        due(1, y.before(2, 0));
    }

    @Says(part = "Promise 10", quote = "Throws IndexOutOfBoundsException if one of the tasks does not exist")
    static void bothTasksMustExist() {
        LineBalancer x = withTasks(2, 1);
        thrown(INDEX, () -> x.before(2, 0));
        thrown(INDEX, () -> x.before(0, 2));
        thrown(INDEX, () -> x.before(2, 2));
        for (int task : OUTSIDE) {
            thrown(INDEX, () -> x.before(task, 0));
            thrown(INDEX, () -> x.before(0, task));
            thrown(INDEX, () -> x.before(task, task));
        }
    }

    @Says(part = "Promise 10", quote = "Throws IllegalArgumentException if both are the same")
    static void theSameTaskTwiceIsRefused() {
        LineBalancer x = withTasks(12, 1);
        thrown(ARGUMENT, () -> x.before(0, 0));
        thrown(ARGUMENT, () -> x.before(11, 11));
    }

    @Says(part = "Promise 10", quote = "the former one is directly before the latter one already")
    static void aSecondTimeIsRefusedButAChainIsNot() {
        LineBalancer x = chain(3);
        thrown(ARGUMENT, () -> x.before(0, 1));
        thrown(ARGUMENT, () -> x.before(1, 2));
        due(2, x.before(0, 2));
        thrown(ARGUMENT, () -> x.before(0, 2));
        x.drop(0, 1);
        due(1, x.before(0, 1));
    }

    @Says(part = "Promise 10", quote = "Throws UnsupportedOperationException if the latter one is before the "
            + "former one")
    static void aLinkAgainstAChainIsRefused() {
        LineBalancer x = chain(12);
        thrown(SUPPORTED, () -> x.before(1, 0));
        thrown(SUPPORTED, () -> x.before(11, 0));
        thrown(SUPPORTED, () -> x.before(11, 10));
        x.drop(5, 6);
        due(6, x.before(11, 0));
        thrown(SUPPORTED, () -> x.before(5, 6));
    }

    // ---- Promise 11

    @Says(part = "Promise 11", quote = "Makes two tasks a pair, in place of the pair that they may be.")
    static void aPairTakesThePlaceOfTheOther() {
        LineBalancer x = withTasks(3, 1);
        x.pair(0, 1, true);
        due("2 0 1 0", PAIRS_OF_0_AND_1.answer(x));
        x.pair(1, 0, false);
        due("0 2 0 1", PAIRS_OF_0_AND_1.answer(x));
        x.pair(0, 1, false);
        due("0 2 0 1", PAIRS_OF_0_AND_1.answer(x));
        // the pairs with other tasks stay
        x.pair(2, 0, true);
        x.pair(2, 1, false);
        x.pair(0, 1, true);
        due("6 0 1 4", PAIRS_OF_0_AND_1.answer(x));
        due("1 2", x.task(2, 9) + " " + x.task(2, 10));
    }

    @Says(part = "Promise 11", quote = "Both stay in their stations.")
    static void theTasksOfAPairStay() {
        LineBalancer x = put(withTasks(3, 1), 4, 4, 5);
        x.pair(0, 1, true);
        x.pair(0, 2, false);
        due("4 4 5", placesOf(x));
        due(3, x.line(5));
    }

    @Says(part = "Promise 11", quote = "true if they must be apart, false if they must be together")
    static void trueIsApart() {
        LineBalancer x = withTasks(12, 1);
        x.pair(0, 11, true);
        x.pair(11, 1, false);
        due(1 << 11, x.task(0, 9));
        due(1, x.task(11, 9));
        due(1 << 11, x.task(1, 10));
        due(2, x.task(11, 10));
        x.assign(11, 0);
        due(3, x.reason(0, 0));
        due(4, x.reason(1, 1));
    }

    @Says(part = "Promise 11", quote = "Returns 0 if they were no pair, 1 if they had to be apart, 2 if they had to be "
            + "together.")
    static void pairReturnsWhatTheyWere() {
        LineBalancer x = withTasks(12, 1);
        for (int other = 1; other < 12; other += 10) {
            due(0, x.pair(0, other, true));
            due(1, x.pair(0, other, true));
            due(1, x.pair(other, 0, false));
            due(2, x.pair(0, other, false));
            due(2, x.pair(other, 0, true));
            due(2, x.drop(0, other));
            due(0, x.pair(other, 0, false));
        }
    }

    @Says(part = "Promise 11", quote = "Throws IndexOutOfBoundsException if one of the tasks does not exist")
    static void bothTasksOfAPairMustExist() {
        LineBalancer x = withTasks(2, 1);
        thrown(INDEX, () -> x.pair(2, 0, true));
        thrown(INDEX, () -> x.pair(0, 2, false));
        for (int task : OUTSIDE) {
            thrown(INDEX, () -> x.pair(task, 1, true));
            thrown(INDEX, () -> x.pair(1, task, false));
            thrown(INDEX, () -> x.pair(task, task, false));
        }
        due("0 0 0 0", PAIRS_OF_0_AND_1.answer(x));
    }

    @Says(part = "Promise 11", quote = "Throws IllegalArgumentException if both are the same")
    static void aTaskIsNoPair() {
        LineBalancer x = withTasks(12, 1);
        for (int task = 0; task < 12; task += 11) {
            int t = task;
            thrown(ARGUMENT, () -> x.pair(t, t, true));
            thrown(ARGUMENT, () -> x.pair(t, t, false));
            due(0, x.task(t, 9) | x.task(t, 10));
        }
    }

    // ---- Promise 12

    @Says(part = "Promise 12", quote = "Ends that one of two tasks is directly before the other one, and that "
            + "they are a pair.")
    static void dropEndsBothInEitherDirection() {
        for (int swap = 0; swap < 2; swap++) {
            for (int kind = 0; kind < 2; kind++) {
                LineBalancer x = withTasks(12, 1);
                x.before(11, 0);
                x.pair(0, 11, kind == 0);
                x.drop(swap == 0 ? 0 : 11, swap == 0 ? 11 : 0);
                due("0 0 0 0", x.task(0, 6) + " " + x.task(0, 8) + " " + x.task(0, 9) + " " + x.task(0, 10));
                due("0 0 0", x.task(11, 7) + " " + x.task(11, 9) + " " + x.task(11, 10));
            }
        }
    }

    @Says(part = "Promise 12", quote = "Ends that one of two tasks is directly before the other one")
    static void dropLeavesWhatOtherChainsHold() {
        LineBalancer x = chain(4);
        x.before(0, 2);
        x.pair(0, 2, true);
        x.pair(1, 3, false);
        due(1, x.drop(1, 2));
        due(1, x.task(2, 6));
        due(1 + 4, x.task(3, 6));
        due(1, x.task(1, 6));
        due(0, x.task(1, 7));
        due(4, x.task(0, 9));
        due(8, x.task(1, 10));
    }

    @Says(part = "Promise 12", quote = "Returns 1 if one of them was directly before the other one, plus 2 if "
            + "they were a pair.")
    static void dropReturns1Or2Or3() {
        LineBalancer x = withTasks(3, 1);
        x.before(0, 1);
        due(1, x.drop(0, 1));
        x.before(0, 1);
        due(1, x.drop(1, 0));
        x.pair(0, 1, true);
        due(2, x.drop(1, 0));
        x.pair(0, 1, false);
        due(2, x.drop(0, 1));
        x.pair(0, 1, false);
        x.before(1, 0);
        due(3, x.drop(0, 1));
        x.pair(0, 1, true);
        x.before(1, 0);
        due(3, x.drop(1, 0));
    }

    @Says(part = "Promise 12", quote = "Throws IndexOutOfBoundsException if one of the tasks does not exist")
    static void bothTasksToDropMustExist() {
        LineBalancer x = chain(2);
        thrown(INDEX, () -> x.drop(0, 2));
        thrown(INDEX, () -> x.drop(2, 0));
        for (int task : OUTSIDE) {
            thrown(INDEX, () -> x.drop(task, 1));
            thrown(INDEX, () -> x.drop(0, task));
            thrown(INDEX, () -> x.drop(task, task));
        }
        due(1, x.task(1, 6));
    }

    @Says(part = "Promise 12", quote = "Throws NoSuchElementException if neither was the case")
    static void nothingToDropIsRefused() {
        LineBalancer x = chain(3);
        thrown(ELEMENT, () -> x.drop(0, 2));
        thrown(ELEMENT, () -> x.drop(2, 0));
        thrown(ELEMENT, () -> x.drop(1, 1));
        x.drop(0, 1);
        thrown(ELEMENT, () -> x.drop(0, 1));
        x.pair(0, 1, true);
        x.drop(0, 1);
        thrown(ELEMENT, () -> x.drop(1, 0));
        due(2, x.task(2, 6));
    }

    // ---- Promise 13

    @Says(part = "Promise 13", quote = "0 to 2 for its times")
    static void what0To2AreTheTimesInUseOrNot() {
        LineBalancer x = withTasks(11, 1);
        x.addTask(0, 99, 98, 0);
        due("0 99 98", x.task(11, 0) + " " + x.task(11, 1) + " " + x.task(11, 2));
    }

    @Says(part = "Promise 13", quote = "3 for its tool")
    static void what3IsTheToolAlsoNone() {
        LineBalancer x = withTools(0, 5);
        due("0 5", x.task(0, 3) + " " + x.task(1, 3));
    }

    @Says(part = "Promise 13", quote = "4 for its weighted time")
    static void what4IsTheWeightedTime() {
        LineBalancer x = new LineBalancer();
        x.addTask(99, 99, 99, 1);
        due(99, x.task(0, 4));
        x.setModels(3);
        due(297, x.task(0, 4));
        x.setDemand(2, 9);
        due(11 * 99, x.task(0, 4));
    }

    @Says(part = "Promise 13", quote = "5 for its station, -1 if it is in none")
    static void what5IsMinus1ForNone() {
        LineBalancer x = withTasks(1, 1);
        due(-1, x.task(0, 5));
        x.assign(0, 0);
        due(0, x.task(0, 5));
        x.assign(0, 7);
        due(7, x.task(0, 5));
        x.clearLine();
        due(-1, x.task(0, 5));
    }

    @Says(part = "Promise 13", quote = "6 for the set of tasks that are before it, as bits")
    static void what6IsEmptyOrAllOthers() {
        LineBalancer x = chain(12);
        due(0, x.task(0, 6));
        due(0x7ff, x.task(11, 6));
    }

    @Says(part = "Promise 13", quote = "7 for the set of those before which it is")
    static void what7IsEmptyOrAllOthers() {
        LineBalancer x = chain(12);
        due(0xffe, x.task(0, 7));
        due(0, x.task(11, 7));
    }

    @Says(part = "Promise 13", quote = "8 for those that are directly before it")
    static void what8LeavesChainsOut() {
        LineBalancer x = chain(12);
        due(0, x.task(0, 8));
        due(1 << 10, x.task(11, 8));
        x.before(0, 11);
        due((1 << 10) + 1, x.task(11, 8));
        x.drop(10, 11);
        due(1, x.task(11, 8));
    }

    @Says(part = "Promise 13", quote = "9 for those from which it must be apart")
    static void what9IsEmptyOrAllOthers() {
        LineBalancer x = withTasks(12, 1);
        due(0, x.task(11, 9));
        for (int task = 0; task < 11; task++) {
            x.pair(task, 11, true);
            due(1 << 11, x.task(task, 9));
        }
        due(0x7ff, x.task(11, 9));
        due(0, x.task(11, 10));
    }

    @Says(part = "Promise 13", quote = "10 for those with which it must be together")
    static void what10IsEmptyOrAllOthers() {
        LineBalancer x = withTasks(12, 1);
        due(0, x.task(0, 10));
        for (int task = 1; task < 12; task++) {
            x.pair(task, 0, false);
            due(1, x.task(task, 10));
        }
        due(0xffe, x.task(0, 10));
        due(0, x.task(0, 9));
        // together is said of pairs, not of chains of them
        due(1, x.task(5, 10));
    }

    @Says(part = "Promise 13", quote = "11 for the lowest station that does not refuse it, -1 if all do")
    static void what11GoesFromMinus1To7() {
        LineBalancer x = withTimes(60, 60, 60, 60, 60, 60, 60, 60, 60);
        due(0, x.task(8, 11));
        for (int task = 0; task < 8; task++) {
            due(task, x.task(8, 11));
            // its own station does not refuse it
            x.assign(task, task);
            due(task, x.task(task, 11));
        }
        due(-1, x.task(8, 11));
        x.setTime(8, 0, 0);
        due(0, x.task(8, 11));
        // a station in between that alone does not refuse
        x.setTime(8, 0, 1);
        x.setCopies(7, 2);
        due(7, x.task(8, 11));
        x.setCopies(3, 2);
        due(3, x.task(8, 11));
        thrown(ELEMENT, x::whyNot);
    }

    @Says(part = "Promise 13", quote = "Throws IndexOutOfBoundsException if there is no such task")
    static void numbersOfOtherTasksDoNotExist() {
        LineBalancer x = withTasks(2, 1);
        for (int what = 0; what <= 11; what++) {
            int w = what;
            thrown(INDEX, () -> x.task(2, w));
            thrown(INDEX, () -> x.task(-1, w));
            thrown(INDEX, () -> x.task(12, w));
        }
        for (int task : OUTSIDE) {
            thrown(INDEX, () -> x.task(task, 0));
        }
    }

    @Says(part = "Promise 13", quote = "Throws IllegalArgumentException if what is out of range")
    static void whatMinus1And12AreOutOfRange() {
        LineBalancer x = withTasks(2, 1);
        thrown(ARGUMENT, () -> x.task(0, 12));
        thrown(ARGUMENT, () -> x.task(1, 12));
        for (int what : OUTSIDE) {
            thrown(ARGUMENT, () -> x.task(1, what));
        }
    }

    @Says(part = "Promise 13", quote = "Returns a number of a task.")
    static void toAskForATaskIsNoChange() {
        LineBalancer x = withTasks(1, 61);
        String first = answers(x);
        due(first, answers(x));
        due(0, x.undo());
    }

    // ---- Promise 14

    @Says(part = "Promise 14", quote = "the priority, 0 to 3")
    static void thePriorities0And3AreTheBounds() {
        LineBalancer x = withTimes(5, 7);
        x.before(0, 1);
        due("12 5 1 0", x.priority(0, 0) + " " + x.priority(0, 1) + " " + x.priority(0, 2) + " " + x.priority(0, 3));
    }

    @Says(part = "Promise 14", quote = "Throws IndexOutOfBoundsException if there is no such task")
    static void prioritiesOfOtherTasksDoNotExist() {
        LineBalancer x = withTasks(2, 1);
        for (int priority = 0; priority < 4; priority++) {
            int p = priority;
            thrown(INDEX, () -> x.priority(2, p));
            for (int task : OUTSIDE) {
                thrown(INDEX, () -> x.priority(task, p));
            }
        }
    }

    @Says(part = "Promise 14", quote = "Throws IllegalArgumentException if there is no such priority")
    static void thePrioritiesMinus1And4DoNotExist() {
        LineBalancer x = withTasks(1, 1);
        thrown(ARGUMENT, () -> x.priority(0, 4));
        for (int priority : OUTSIDE) {
            thrown(ARGUMENT, () -> x.priority(0, priority));
        }
    }

    @Says(part = "Promise 14", quote = "Returns a priority of a task.")
    static void aPriorityDoesNotDependOnTheLine() {
        LineBalancer x = withTasks(12, 99);
        for (int task = 1; task < 12; task++) {
            x.before(0, task);
        }
        due(12 * 99, x.priority(0, 0));
        due(99, x.priority(11, 0));
        x.setRule(0, 99);
        x.assign(0, 3);
        due(12 * 99, x.priority(0, 0));
        due(11, x.priority(0, 2));
    }

    // ---- Promise 15

    @Says(part = "Promise 15", quote = "Returns the number of tasks.")
    static void theSizeGoesFrom0To12() {
        LineBalancer x = new LineBalancer();
        due(0, x.size());
        for (int task = 0; task < 12; task++) {
            x.addTask(0, 0, 0, 0);
            due(task + 1, x.size());
        }
        thrown(STATE, () -> x.addTask(0, 0, 0, 0));
        due(12, x.size());
        x.clearLine();
        due(12, x.size());
        x.undo();
        x.undo();
        due(11, x.size());
    }
}
