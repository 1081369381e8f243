import java.util.List;

/** A test for each sentence of the description that names a boundary case. */
public final class DescriptionBoundaryTests extends Checks {
    public static void main(String[] args) throws Exception {
        runAll(DescriptionBoundaryTests.class, List.of("Models", "Tasks", "Precedence", "Pairs", "Stations",
                "Tool changes", "Times", "Reasons", "Priorities", "Lines"));
    }

    // ---- What it is

    @Says(part = "What it is", quote = "An object is used for at most 512 calls after it has been made")
    static void theLastOf512CallsAnswersAsTheFirst() {
        LineBalancer x = withTasks(8, 0);
        for (int call = 9; call <= 512; call++) {
            due(16777216, x.ways(8));
        }
        LineBalancer y = new LineBalancer();
        for (int call = 1; call < 512; call++) {
            y.setRule(0, 10 + call);
        }
        due(7, y.undo());
        LineBalancer z = new LineBalancer();
        for (int round = 0; round < 6; round++) {
            feed(z, "x".repeat(80));
            due(-100, z.read());
        }
        // 6 * 81 calls and 26 more
        feed(z, "x".repeat(25));
        due(26, z.feed('x'));
    }

    // ---- Models

    @Says(part = "Models", quote = "There are 1 to 3 models in use")
    static void oneModelAndThreeModelsAreTheBounds() {
        LineBalancer x = new LineBalancer();
        x.setModels(3);
        due(3, x.rule(4));
        due(0, x.time(0, 2, false));
        x.setModels(1);
        due(1, x.rule(4));
        thrown(ARGUMENT, () -> x.setModels(0));
        thrown(ARGUMENT, () -> x.setModels(4));
        due(1, x.rule(4));
    }

    @Says(part = "Models", quote = "numbered from 0, at first 1.")
    static void theOneModelAtFirstIsTheModel0() {
        LineBalancer x = new LineBalancer();
        due(1, x.rule(4));
        x.addTask(5, 6, 7, 0);
        due(5, x.task(0, 4));
        due(0, x.time(0, 0, false));
        thrown(INDEX, () -> x.time(0, 1, false));
        x.setModels(2);
        due(11, x.task(0, 4));
        thrown(INDEX, () -> x.time(0, 2, false));
    }

    @Says(part = "Models", quote = "has a demand from 1 to 9")
    static void theDemandsHaveBounds() {
        LineBalancer x = new LineBalancer();
        for (int m = 0; m < 3; m++) {
            int model = m;
            due(1, x.setDemand(model, 9));
            due(9, x.rule(6 + model));
            thrown(ARGUMENT, () -> x.setDemand(model, 10));
            thrown(ARGUMENT, () -> x.setDemand(model, 0));
            due(9, x.setDemand(model, 1));
            due(1, x.rule(6 + model));
        }
    }

    @Says(part = "Models", quote = "at first 1, also if it is not in use")
    static void theDemandsAreAtFirst1() {
        LineBalancer x = new LineBalancer();
        for (int model = 0; model < 3; model++) {
            due(1, x.rule(6 + model));
        }
    }

    @Says(part = "Models", quote = "The total demand is the sum of the demands of the models in use")
    static void theTotalDemandLeavesOutModelsThatAreNotInUse() {
        LineBalancer x = new LineBalancer();
        x.setDemand(1, 9);
        x.setDemand(2, 9);
        due(1, x.rule(5));
        x.setModels(2);
        due(10, x.rule(5));
        x.setDemand(0, 9);
        x.setModels(3);
        due(27, x.rule(5));
    }

    @Says(part = "Models", quote = "whatever is said of models below is about those in use")
    static void aModelThatIsNotInUseCountsNowhere() {
        LineBalancer x = new LineBalancer();
        x.addTask(1, 99, 99, 1);
        x.addTask(0, 99, 99, 2);
        x.setDemand(1, 9);
        put(x, 0, 0);
        due(1, x.task(0, 4));
        due(1, x.priority(0, 0));
        due(1, x.station(0, 2));
        due(59, x.station(0, 5));
        due(1, x.line(7));
        due(1f / 60f, x.efficiency());
        due(59L * 59L, x.unevenness());
        x.setRule(3, 1);
        due(1, x.station(0, 3));
        due(1, x.least());
        x.setModels(2);
        due(0, x.station(0, 3));
        thrown(ELEMENT, x::least);
    }

    // ---- Tasks

    @Says(part = "Tasks", quote = "There are at most 12 tasks")
    static void aThirteenthTaskIsNotAdded() {
        LineBalancer x = withTasks(11, 1);
        due(11, x.addTask(1, 1, 1, 1));
        thrown(STATE, () -> x.addTask(1, 1, 1, 1));
        due(12, x.size());
    }

    @Says(part = "Tasks", quote = "numbered from 0 in the order in which they were added")
    static void theNumbersOfTasksBeginWith0() {
        LineBalancer x = new LineBalancer();
        for (int task = 0; task < 12; task++) {
            due(task, x.addTask(task, 0, 0, 0));
        }
        due(0, x.task(0, 0));
        due(11, x.task(11, 0));
        thrown(INDEX, () -> x.task(12, 0));
        x.undo();
        thrown(INDEX, () -> x.task(11, 0));
        due(11, x.addTask(50, 0, 0, 0));
        due(50, x.task(11, 0));
    }

    @Says(part = "Tasks", quote = "A task has a time from 0 to 99 in each of the three models")
    static void theTimesHaveBounds() {
        LineBalancer x = new LineBalancer();
        x.addTask(0, 0, 0, 0);
        x.addTask(99, 99, 99, 0);
        for (int m = 0; m < 3; m++) {
            int model = m;
            due(0, x.task(0, model));
            due(99, x.task(1, model));
            thrown(ARGUMENT, () -> x.setTime(0, model, -1));
            thrown(ARGUMENT, () -> x.setTime(1, model, 100));
            int[] low = new int[3];
            low[model] = -1;
            thrown(ARGUMENT, () -> x.addTask(low[0], low[1], low[2], 0));
            int[] high = new int[3];
            high[model] = 100;
            thrown(ARGUMENT, () -> x.addTask(high[0], high[1], high[2], 0));
        }
        due(2, x.size());
    }

    @Says(part = "Tasks", quote = "a tool from 0 to 5")
    static void theToolsHaveBounds() {
        LineBalancer x = withTools(0, 5);
        due(0, x.task(0, 3));
        due(5, x.task(1, 3));
        thrown(ARGUMENT, () -> x.addTask(0, 0, 0, -1));
        thrown(ARGUMENT, () -> x.addTask(0, 0, 0, 6));
        thrown(ARGUMENT, () -> x.setTool(0, -1));
        thrown(ARGUMENT, () -> x.setTool(0, 6));
        due(0, x.task(0, 3));
    }

    @Says(part = "Tasks", quote = "where 0 means none")
    static void theTool0IsNoTool() {
        LineBalancer x = withTools(0, 1, 0);
        x.setRule(2, 1);
        put(x, 0, 0, 0);
        due(7, x.station(0, 0));
        due(1 << 1, x.station(0, 4));
        due(0, x.time(0, 0, true));
    }

    @Says(part = "Tasks", quote = "Its weighted time is the sum, over the models, of the demand times the time")
    static void theWeightedTimeGoesFrom0To2673() {
        LineBalancer x = new LineBalancer();
        x.setModels(3);
        for (int model = 0; model < 3; model++) {
            x.setDemand(model, 9);
        }
        x.addTask(0, 0, 0, 5);
        x.addTask(99, 99, 99, 0);
        due(0, x.task(0, 4));
        due(2673, x.task(1, 4));
        x.setDemand(0, 2);
        x.setDemand(1, 3);
        x.setDemand(2, 4);
        x.setTime(1, 0, 1);
        x.setTime(1, 1, 10);
        x.setTime(1, 2, 0);
        due(32, x.task(1, 4));
    }

    // ---- Precedence

    @Says(part = "Precedence", quote = "A task can be directly before another one.")
    static void aTaskIsDirectlyBeforeAnother() {
        LineBalancer x = withTasks(12, 1);
        x.before(11, 0);
        due(1 << 11, x.task(0, 8));
        due(0, x.task(11, 8));
        due(1 << 11, x.task(0, 6));
        due(1, x.task(11, 7));
    }

    @Says(part = "Precedence", quote = "if there is a chain of one or more direct ones from the former to the latter")
    static void aChainHasOneToElevenDirectOnes() {
        LineBalancer x = withTasks(12, 1);
        for (int task = 0; task < 11; task += 2) {
            due(1, x.before(task, task + 1));
        }
        // the links between are put in last, so that each one joins two chains
        for (int task = 1; task < 11; task += 2) {
            due(task + 1, x.before(task, task + 1));
        }
        for (int task = 0; task < 12; task++) {
            due((1 << task) - 1, x.task(task, 6));
            due(0xfff & ~((2 << task) - 1), x.task(task, 7));
            due(task == 0 ? 0 : 1 << task - 1, x.task(task, 8));
        }
        x.drop(5, 6);
        due(0, x.task(6, 6));
        due(1 << 6, x.task(7, 6));
        due(0xf80, x.task(6, 7));
    }

    @Says(part = "Precedence", quote = "no task is ever before itself")
    static void noCircleIsClosed() {
        LineBalancer x = withTasks(12, 1);
        thrown(ARGUMENT, () -> x.before(0, 0));
        x.before(0, 1);
        thrown(SUPPORTED, () -> x.before(1, 0));
        for (int task = 1; task < 11; task++) {
            x.before(task, task + 1);
        }
        thrown(SUPPORTED, () -> x.before(11, 0));
        thrown(SUPPORTED, () -> read(x, "before 11 0"));
        for (int task = 0; task < 12; task++) {
            due(0, (x.task(task, 6) | x.task(task, 7)) & 1 << task);
        }
    }

    // ---- Pairs

    @Says(part = "Pairs", quote = "Two different tasks can be a pair")
    static void aTaskIsNoPairWithItself() {
        LineBalancer x = withTasks(12, 1);
        thrown(ARGUMENT, () -> x.pair(3, 3, true));
        thrown(ARGUMENT, () -> x.pair(3, 3, false));
        due(0, x.task(3, 9) | x.task(3, 10));
        // all others can be pairs with one task
        for (int other = 0; other < 11; other++) {
            due(0, x.pair(11, other, other % 2 == 0));
        }
        due(0b10101010101, x.task(11, 9));
        due(0b01010101010, x.task(11, 10));
    }

    @Says(part = "Pairs", quote = "whose tasks must be apart or must be together")
    static void aPairIsNeverBoth() {
        LineBalancer x = withTasks(2, 1);
        x.pair(0, 1, true);
        due("2 0 1 0", x.task(0, 9) + " " + x.task(0, 10) + " " + x.task(1, 9) + " " + x.task(1, 10));
        x.pair(0, 1, false);
        due("0 2 0 1", x.task(0, 9) + " " + x.task(0, 10) + " " + x.task(1, 9) + " " + x.task(1, 10));
        x.pair(1, 0, true);
        due("2 0 1 0", x.task(0, 9) + " " + x.task(0, 10) + " " + x.task(1, 9) + " " + x.task(1, 10));
    }

    // ---- Stations

    @Says(part = "Stations", quote = "There are 8 stations, numbered from 0.")
    static void theStations0And7AreTheBounds() {
        LineBalancer x = withTasks(1, 1);
        for (int s : new int[] {0, 7}) {
            due(1, x.setCopies(s, 2));
            due(0, x.reason(0, s));
            x.assign(0, s);
            due(1, x.station(s, 0));
            due(1, x.time(s, 0, false));
            due(0, x.sequence(s, 0));
            due(1, read(x, "put 0 " + s));
        }
        for (int s : new int[] {-1, 8}) {
            thrown(INDEX, () -> x.setCopies(s, 2));
            thrown(INDEX, () -> x.reason(0, s));
            thrown(INDEX, () -> x.station(s, 0));
            thrown(INDEX, () -> x.time(s, 0, false));
            thrown(INDEX, () -> x.sequence(s, 0));
        }
        thrown(INDEX, () -> x.assign(0, 8));
        thrown(SUPPORTED, () -> read(x, "put 0 8"));
    }

    @Says(part = "Stations", quote = "Each one has 1 to 3 copies, at first 1.")
    static void theCopiesHaveBounds() {
        LineBalancer x = new LineBalancer();
        for (int s = 0; s < 8; s++) {
            int station = s;
            due(1, x.station(station, 1));
            due(1, x.setCopies(station, 3));
            due(3, x.station(station, 1));
            thrown(ARGUMENT, () -> x.setCopies(station, 0));
            thrown(ARGUMENT, () -> x.setCopies(station, 4));
            due(3, x.setCopies(station, 1));
        }
    }

    @Says(part = "Stations", quote = "A task is in one station or in none, at first in none.")
    static void aTaskIsInOneStationAtMost() {
        LineBalancer x = withTasks(1, 1);
        due(-1, x.task(0, 5));
        due(0, x.line(2));
        x.assign(0, 3);
        x.assign(0, 4);
        due(0, x.station(3, 0));
        due(1, x.station(4, 0));
        due(1, x.line(2));
        x.assign(0, -1);
        due(0, x.station(4, 0));
        due(0, x.line(2));
    }

    @Says(part = "Stations", quote = "The sequence of a station consists of its tasks")
    static void aSequenceHasNoneToAllOfTheTasks() {
        LineBalancer x = withTasks(12, 1);
        thrown(ELEMENT, () -> x.sequence(5, 0));
        x.assign(7, 5);
        due("7", sequenceOf(x, 5));
        thrown(ELEMENT, () -> x.sequence(5, 1));
        for (int task = 0; task < 12; task++) {
            x.assign(task, 5);
        }
        due("0 1 2 3 4 5 6 7 8 9 10 11", sequenceOf(x, 5));
        thrown(ELEMENT, () -> x.sequence(5, 12));
        x.assign(0, 6);
        due("1 2 3 4 5 6 7 8 9 10 11", sequenceOf(x, 5));
    }

    @Says(part = "Stations", quote = "the lowest one of its tasks that is not in the sequence yet")
    static void theLowestFreeTaskComesNext() {
        LineBalancer x = withTasks(12, 1);
        for (int task = 0; task < 12; task++) {
            x.assign(task, 0);
        }
        for (int task = 11; task > 0; task--) {
            x.before(task, task - 1);
        }
        due("11 10 9 8 7 6 5 4 3 2 1 0", sequenceOf(x, 0));
        x.drop(6, 5);
        // 5 is free at once, then 4 down to 0, which are lower than 11
        due("5 4 3 2 1 0 11 10 9 8 7 6", sequenceOf(x, 0));
        x.drop(5, 4);
        due("4 3 2 1 0 5 11 10 9 8 7 6", sequenceOf(x, 0));
    }

    @Says(part = "Stations", quote = "and before which none of its tasks is that is not in the sequence yet")
    static void aTaskElsewhereHoldsNoneUpButItsChainDoes() {
        LineBalancer x = withTasks(3, 1);
        x.before(2, 1);
        x.before(1, 0);
        put(x, 4, 4, 4);
        due("2 1 0", sequenceOf(x, 4));
        x.assign(1, -1);
        due("2 0", sequenceOf(x, 4));
        x.assign(2, -1);
        x.assign(1, 4);
        due("1 0", sequenceOf(x, 4));
        x.assign(1, 3);
        due("0", sequenceOf(x, 4));
    }

    // ---- Tool changes

    @Says(part = "Tool changes", quote = "whose time in this model is greater than 0")
    static void aTaskOfTime0IsNotLookedAt() {
        LineBalancer x = withTools(1, 2);
        put(x, 0, 0);
        due(2, x.time(0, 0, true));
        x.setTime(1, 0, 0);
        due(0, x.time(0, 0, true));
        x.setTime(1, 1, 1);
        x.setTime(1, 2, 1);
        due(0, x.time(0, 0, true));
        x.setModels(2);
        // only the task 1 has a time in the model 1
        due(0, x.time(0, 1, true));
        x.setTime(0, 1, 1);
        due(2, x.time(0, 1, true));
        due(0, x.time(0, 0, true));
    }

    @Says(part = "Tool changes", quote = "and whose tool is not 0")
    static void aTaskWithoutToolIsNotLookedAt() {
        LineBalancer x = withTools(0, 3, 0, 3, 0);
        put(x, 0, 0, 0, 0, 0);
        due(0, x.time(0, 0, true));
        x.setTool(3, 4);
        due(2, x.time(0, 0, true));
        x.setTool(2, 5);
        due(3, x.time(0, 0, true));
    }

    @Says(part = "Tool changes", quote = "whose tool is another one than that of the next one of them")
    static void theNumberOfChangesIsThatOfNeighboursWithOtherTools() {
        LineBalancer x = withTools(1, 1, 2, 2, 1, 3);
        put(x, 0, 0, 0, 0, 0, 0);
        // 1 1 2 2 1 3 and around: at 1 2, 2 1, 1 3 and 3 1
        due(4, x.time(0, 0, true));
        LineBalancer y = withTools(1, 2, 1, 2, 1, 2, 1, 2, 1, 2, 1, 2);
        put(y, 0, 0, 0, 0, 0, 0, 0, 0, 0, 0, 0, 0);
        due(12, y.time(0, 0, true));
    }

    @Says(part = "Tool changes", quote = "where the first one is the next one after the last one")
    static void theSequenceGoesAround() {
        LineBalancer x = withTools(1, 2, 1);
        due(0, x.time(0, 0, true));
        x.assign(0, 0);
        due(0, x.time(0, 0, true));
        x.assign(2, 0);
        due(0, x.time(0, 0, true));
        x.assign(2, 1);
        x.assign(1, 0);
        due(2, x.time(0, 0, true));
        x.assign(2, 0);
        due(2, x.time(0, 0, true));
        x.setTool(2, 3);
        due(3, x.time(0, 0, true));
    }

    @Says(part = "Tool changes", quote = "the tasks of the sequence of a station are looked at")
    static void theOrderIsThatOfTheSequence() {
        LineBalancer x = withTools(1, 2, 1, 2);
        put(x, 0, 0, 0, 0);
        due(4, x.time(0, 0, true));
        x.before(2, 1);
        // 0 2 1 3
        due(2, x.time(0, 0, true));
    }

    // ---- Times

    @Says(part = "Times", quote = "The line has a cycle time from 10 to 999, at first 60")
    static void theCycleTimeHasBounds() {
        checkRule(0, 10, 999, 60);
    }

    @Says(part = "Times", quote = "a change time from 0 to 20, at first 2")
    static void theChangeTimeHasBounds() {
        checkRule(1, 0, 20, 2);
    }

    @Says(part = "Times", quote = "a tool limit from 1 to 5, at first 5")
    static void theToolLimitHasBounds() {
        checkRule(2, 1, 5, 5);
    }

    private static void checkRule(int rule, int lowest, int highest, int first) {
        LineBalancer x = new LineBalancer();
        due(first, x.rule(rule));
        due(first, x.setRule(rule, lowest));
        thrown(ARGUMENT, () -> x.setRule(rule, lowest - 1));
        due(lowest, x.setRule(rule, highest));
        thrown(ARGUMENT, () -> x.setRule(rule, highest + 1));
        due(highest, x.rule(rule));
    }

    @Says(part = "Times", quote = "plus the number of changes times the change time")
    static void theChangeTimeCountsFrom0To20() {
        LineBalancer x = withTools(1, 2, 3);
        put(x, 0, 0, 0);
        due(3 + 3 * 2, x.time(0, 0, false));
        x.setRule(1, 0);
        due(3, x.time(0, 0, false));
        x.setRule(1, 20);
        due(3 + 3 * 20, x.time(0, 0, false));
        due(63, x.station(0, 2));
        due(0, x.time(1, 0, false));
    }

    @Says(part = "Times", quote = "The load of a station is the sum, over the models, of the demand times its "
            + "time in the model.")
    static void theLoadGoesFrom0ToTheGreatest() {
        LineBalancer x = new LineBalancer();
        due(0, x.station(0, 2));
        x.setRule(0, 999);
        x.setRule(1, 20);
        x.setCopies(0, 3);
        x.setModels(3);
        for (int task = 0; task < 12; task++) {
            x.addTask(99, 99, 99, 1 + task % 2);
            x.assign(task, 0);
        }
        due(3 * (12 * 99 + 12 * 20), x.station(0, 2));
        for (int model = 0; model < 3; model++) {
            x.setDemand(model, 9);
        }
        due(27 * (12 * 99 + 12 * 20), x.station(0, 2));
        x.setDemand(1, 1);
        due(19 * (12 * 99 + 12 * 20), x.station(0, 2));
    }

    @Says(part = "Times", quote = "if its load is at most the product of its copies, the cycle time and the "
            + "total demand")
    static void aStationFitsOnAverageUpToTheProduct() {
        LineBalancer x = new LineBalancer();
        x.addTask(99, 21, 0, 0);
        x.addTask(0, 0, 0, 0);
        x.setModels(2);
        x.assign(0, 0);
        // 120 is 1 * 60 * 2
        due(1, x.station(0, 3));
        due(0, x.reason(1, 0));
        x.setTime(0, 1, 22);
        due(0, x.station(0, 3));
        due(6, x.reason(1, 0));
        x.setCopies(0, 2);
        due(1, x.station(0, 3));
        x.setDemand(0, 3);
        // 3 * 99 + 22 = 319, and 1 * 79 * 4 = 316, 1 * 80 * 4 = 320
        x.setCopies(0, 1);
        x.setRule(0, 79);
        due(0, x.station(0, 3));
        x.setRule(0, 80);
        due(1, x.station(0, 3));
        due(1, x.station(7, 3));
    }

    @Says(part = "Times", quote = "strictly, if its time in each model is at most the product of its copies and "
            + "the cycle time")
    static void aStationFitsStrictlyUpToTheProduct() {
        for (int model = 0; model < 3; model++) {
            LineBalancer x = withTasks(2, 0);
            x.setModels(3);
            x.setDemand(model, 9);
            x.setRule(3, 1);
            x.assign(0, 0);
            x.setTime(0, model, 60);
            due(1, x.station(0, 3));
            due(0, x.reason(1, 0));
            x.setTime(0, model, 61);
            due(0, x.station(0, 3));
            due(6, x.reason(1, 0));
            x.setCopies(0, 2);
            due(1, x.station(0, 3));
            x.setRule(0, 30);
            due(0, x.station(0, 3));
            x.setCopies(0, 3);
            due(1, x.station(0, 3));
            due(1, x.station(7, 3));
        }
    }

    @Says(part = "Times", quote = "At first, stations have to fit on average.")
    static void stationsFitOnAverageAtFirst() {
        LineBalancer x = new LineBalancer();
        due(0, x.rule(3));
        x.addTask(90, 30, 0, 0);
        x.setModels(2);
        x.assign(0, 0);
        due(1, x.station(0, 3));
        due(0, x.setRule(3, 1));
        due(0, x.station(0, 3));
        due(1, x.setRule(3, 0));
        due(1, x.station(0, 3));
    }

    @Says(part = "Times", quote = "The time of a station in a model is the sum of the times of its tasks in it")
    static void theTimeGoesFrom0ToThatOfAllTasks() {
        LineBalancer x = withTasks(12, 99);
        due(0, x.time(0, 0, false));
        x.setRule(0, 999);
        x.setCopies(0, 2);
        for (int task = 0; task < 12; task++) {
            x.assign(task, 0);
            due(99 * (task + 1), x.time(0, 0, false));
        }
    }

    // ---- Reasons

    @Says(part = "Reasons", quote = "A task is refused by a station for the first of these reasons that applies")
    static void theFirstOfAllReasonsIsTold() {
        // the task 0 has all reasons at once in the station 3, and loses them one by one
        LineBalancer x = withTools(1, 0, 0, 2, 0);
        x.setRule(2, 1);
        x.setTime(0, 0, 61);
        put(x, -1, 4, 2, 3, 5);
        x.before(1, 0);
        x.before(0, 2);
        x.pair(0, 3, true);
        x.pair(0, 4, false);
        due(1, x.reason(0, 3));
        x.drop(0, 1);
        due(2, x.reason(0, 3));
        x.drop(0, 2);
        due(3, x.reason(0, 3));
        x.drop(0, 3);
        due(4, x.reason(0, 3));
        x.drop(0, 4);
        due(5, x.reason(0, 3));
        x.setRule(2, 2);
        due(6, x.reason(0, 3));
        x.setCopies(3, 2);
        due(0, x.reason(0, 3));
    }

    @Says(part = "Reasons", quote = "when it is thought to be in this station and in no other one")
    static void theTaskCountsOnceAndOnlyInTheStationThatIsAsked() {
        LineBalancer x = withTimes(60, 30, 26);
        put(x, 0, 1);
        // in its own station it is not there twice
        due(0, x.reason(0, 0));
        x.setTime(0, 0, 61);
        due(6, x.reason(0, 0));
        due(6, x.reason(0, 7));
        // its time and its tool count where it is thought to be: 30 + 26 + 2 * 2 is 60
        x.setTool(1, 1);
        x.setTool(2, 2);
        due(0, x.reason(2, 1));
        x.setTime(2, 0, 27);
        due(6, x.reason(2, 1));
        x.assign(2, 2);
        due(6, x.reason(2, 1));
        // and not where it is: moved up, it is no longer in the lower station
        x.before(1, 2);
        due(0, x.reason(2, 7));
        due(1, x.reason(2, 0));
        due(0, x.reason(2, 2));
    }

    @Says(part = "Reasons", quote = "1 a task that is before it is in a station with a higher number")
    static void reason1() {
        LineBalancer x = withTasks(3, 1);
        x.before(0, 1);
        x.before(1, 2);
        due(0, x.reason(2, 0));
        x.assign(0, 4);
        due(1, x.reason(2, 3));
        due(1, x.reason(2, 0));
        due(0, x.reason(2, 4));
        due(0, x.reason(2, 5));
        due(0, x.reason(2, 7));
        x.assign(0, 7);
        due(1, x.reason(2, 6));
        due(0, x.reason(2, 7));
        x.assign(0, 0);
        due(0, x.reason(2, 0));
    }

    @Says(part = "Reasons", quote = "2 a task before which it is is in a station with a lower number")
    static void reason2() {
        LineBalancer x = withTasks(3, 1);
        x.before(0, 1);
        x.before(1, 2);
        due(0, x.reason(0, 7));
        x.assign(2, 4);
        due(2, x.reason(0, 5));
        due(2, x.reason(0, 7));
        due(0, x.reason(0, 4));
        due(0, x.reason(0, 3));
        due(0, x.reason(0, 0));
        x.assign(2, 0);
        due(2, x.reason(0, 1));
        due(0, x.reason(0, 0));
        x.assign(2, 7);
        due(0, x.reason(0, 7));
    }

    @Says(part = "Reasons", quote = "3 a task from which it must be apart is in this station")
    static void reason3() {
        LineBalancer x = withTasks(2, 1);
        x.pair(0, 1, true);
        due(0, x.reason(0, 0));
        x.assign(1, 4);
        due(3, x.reason(0, 4));
        due(0, x.reason(0, 3));
        due(0, x.reason(0, 5));
        x.assign(0, 3);
        due(3, x.reason(1, 3));
        due(0, x.reason(1, 4));
    }

    @Says(part = "Reasons", quote = "4 a task with which it must be together is in another station")
    static void reason4() {
        LineBalancer x = withTasks(2, 1);
        x.pair(0, 1, false);
        due(0, x.reason(0, 0));
        due(0, x.reason(0, 7));
        x.assign(1, 4);
        due(4, x.reason(0, 3));
        due(4, x.reason(0, 5));
        due(0, x.reason(0, 4));
        x.assign(0, 4);
        due(4, x.reason(1, 0));
        due(4, x.reason(1, 7));
        due(0, x.reason(1, 4));
    }

    @Says(part = "Reasons", quote = "5 the tasks of the station have more different tools, other than 0, than "
            + "the tool limit")
    static void reason5() {
        LineBalancer x = withTools(1, 2, 3, 3, 0, 4);
        x.setRule(2, 3);
        put(x, 0, 0);
        due(0, x.reason(2, 0));
        x.assign(2, 0);
        due(0, x.reason(3, 0));
        due(0, x.reason(4, 0));
        due(5, x.reason(5, 0));
        x.setTime(5, 0, 0);
        due(5, x.reason(5, 0));
        // also a task that brings no other tool is refused by a station that has too many
        x.setRule(2, 2);
        due(5, x.reason(3, 0));
        due(5, x.reason(4, 0));
        due(5, x.reason(0, 0));
        due(0, x.reason(5, 1));
        x.setRule(2, 1);
        due(0, x.reason(5, 1));
        LineBalancer y = withTools(1, 2, 3, 4, 5);
        put(y, 0, 0, 0, 0);
        due(0, y.reason(4, 0));
    }

    @Says(part = "Reasons", quote = "6 the station does not fit")
    static void reason6() {
        LineBalancer x = withTimes(40, 20, 21, 0);
        x.assign(0, 0);
        due(0, x.reason(1, 0));
        due(6, x.reason(2, 0));
        // the changes count too
        x.setTool(0, 1);
        x.setTool(1, 2);
        due(6, x.reason(1, 0));
        x.setRule(0, 64);
        due(0, x.reason(1, 0));
        x.setRule(0, 63);
        due(6, x.reason(1, 0));
        x.setRule(0, 39);
        due(6, x.reason(3, 0));
        due(0, x.reason(3, 1));
    }

    // ---- Priorities

    @Says(part = "Priorities", quote = "0 the weighted time of a task plus the sum of the weighted times of all "
            + "tasks before which it is")
    static void thePriority0CountsEachTaskOnce() {
        LineBalancer x = withTimes(1, 10, 20, 99);
        due(1, x.priority(0, 0));
        x.before(0, 1);
        x.before(0, 2);
        x.before(1, 3);
        x.before(2, 3);
        x.before(0, 3);
        due(1 + 10 + 20 + 99, x.priority(0, 0));
        due(10 + 99, x.priority(1, 0));
        due(99, x.priority(3, 0));
        LineBalancer y = new LineBalancer();
        y.setModels(3);
        for (int task = 0; task < 12; task++) {
            y.addTask(99, 99, 99, 0);
            if (task > 0) {
                y.before(task - 1, task);
            }
        }
        due(12 * 297, y.priority(0, 0));
        due(297, y.priority(11, 0));
    }

    @Says(part = "Priorities", quote = "1 its weighted time")
    static void thePriority1LeavesTheOthersOut() {
        LineBalancer x = withTimes(0, 99);
        x.before(0, 1);
        due(0, x.priority(0, 1));
        due(99, x.priority(1, 1));
        x.setDemand(0, 9);
        due(891, x.priority(1, 1));
    }

    @Says(part = "Priorities", quote = "2 the number of tasks before which it is")
    static void thePriority2GoesFrom0To11() {
        LineBalancer x = withTasks(12, 0);
        due(0, x.priority(0, 2));
        for (int task = 0; task < 11; task++) {
            x.before(task, task + 1);
        }
        for (int task = 0; task < 12; task++) {
            due(11 - task, x.priority(task, 2));
        }
    }

    @Says(part = "Priorities", quote = "3 always 0")
    static void thePriority3IsAlways0() {
        LineBalancer x = withTimes(99, 99);
        x.setRule(0, 99);
        x.before(0, 1);
        x.assign(0, 0);
        due(0, x.priority(0, 3));
        due(0, x.priority(1, 3));
    }

    @Says(part = "Priorities", quote = "They are")
    static void thereAreFourPriorities() {
        LineBalancer x = withTasks(1, 7);
        due("7 7 0 0", x.priority(0, 0) + " " + x.priority(0, 1) + " " + x.priority(0, 2) + " " + x.priority(0, 3));
        thrown(ARGUMENT, () -> x.priority(0, 4));
        thrown(ARGUMENT, () -> x.priority(0, -1));
        thrown(ARGUMENT, () -> x.fill(4));
        thrown(ARGUMENT, () -> x.fill(-1));
    }

    // ---- Lines

    @Says(part = "Lines", quote = "a way to put all tasks into the stations 0 to n - 1")
    static void aLineUsesTheFirstStationsAlone() {
        LineBalancer none = new LineBalancer();
        due(1, none.ways(0));
        due(1, none.ways(1));
        due(1, none.ways(8));
        LineBalancer x = withTasks(1, 90);
        x.setCopies(7, 2);
        due(0, x.ways(0));
        due(0, x.ways(7));
        due(1, x.ways(8));
        due(8, x.least());
        x.setCopies(0, 2);
        due(1, x.ways(1));
        due(2, x.ways(8));
    }

    @Says(part = "Lines", quote = "such that no task would be refused by its station, if all others are where they are")
    static void aLineHasNoneOfTheReasons() {
        LineBalancer x = withTasks(2, 31);
        due(2, x.ways(2));
        x.setTime(0, 0, 29);
        due(4, x.ways(2));
        x.before(0, 1);
        due(3, x.ways(2));
        x.pair(0, 1, true);
        due(1, x.ways(2));
        x.pair(0, 1, false);
        due(2, x.ways(2));
        x.setTool(0, 1);
        x.setTool(1, 2);
        due(0, x.ways(2));
        x.setRule(1, 0);
        due(2, x.ways(2));
        x.setRule(2, 1);
        due(0, x.ways(2));
        // what stands in the stations now means nothing for it
        x.setRule(2, 2);
        x.assign(0, 5);
        due(2, x.ways(2));
        due(1, x.least());
    }

    @Says(part = "Lines", quote = "no task would be refused by its station")
    static void noNumberOfCopiesOutweighsAReason() {
        LineBalancer x = withTasks(1, 31);
        x.setRule(0, 10);
        for (int station = 0; station < 8; station++) {
            x.setCopies(station, 3);
        }
        due(0, x.ways(8));
        thrown(ELEMENT, x::least);
        x.setTime(0, 0, 30);
        due(8, x.ways(8));
        x.addTask(0, 0, 0, 0);
        due(4, x.ways(2));
        x.setRule(2, 1);
        x.setTool(0, 1);
        x.setTool(1, 2);
        due(2, x.ways(2));
        x.setRule(2, 5);
        x.pair(0, 1, true);
        due(2, x.ways(2));
        x.pair(0, 1, false);
        due(2, x.ways(2));
        x.setRule(3, 1);
        x.setTime(1, 0, 1);
        due(0, x.ways(2));
    }

    @Says(part = "Lines", quote = "Stations may stay empty.")
    static void emptyStationsAreNoHindrance() {
        LineBalancer x = withTasks(1, 90);
        x.setCopies(2, 2);
        due(3, x.least());
        due(1, x.ways(3));
        x.takeLeast();
        due("2", placesOf(x));
        LineBalancer y = withTasks(2, 0);
        y.pair(0, 1, false);
        due(8, y.ways(8));
    }

    @Says(part = "Lines", quote = "Two lines are different if some task is in different stations.")
    static void tasksThatAreAlikeAreTwoTasks() {
        LineBalancer x = withTasks(2, 10);
        due(1, x.ways(1));
        due(4, x.ways(2));
        due(64, x.ways(8));
        x.pair(0, 1, true);
        due(2, x.ways(2));
        due(56, x.ways(8));
    }
}
