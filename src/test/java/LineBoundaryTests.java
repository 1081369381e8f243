import java.util.List;

/** A test for each sentence of the promises 16 to 26 that names a boundary case. */
public final class LineBoundaryTests extends Checks {
    public static void main(String[] args) throws Exception {
        runAll(LineBoundaryTests.class, List.of("Promise 16", "Promise 17", "Promise 18", "Promise 19", "Promise 20",
                "Promise 21", "Promise 22", "Promise 23", "Promise 24", "Promise 25", "Promise 26"));
    }

    private static final int[] OUTSIDE = {Integer.MIN_VALUE, -1000000, -2, 8, 1000000, Integer.MAX_VALUE};

    /** 12 tasks that bring the station 0 to the greatest load that there is. */
    private static LineBalancer heaviest() {
        LineBalancer x = new LineBalancer();
        for (int task = 0; task < 12; task++) {
            x.addTask(0, 0, 0, 1 + task % 2);
            x.assign(task, 0);
        }
        for (int task = 0; task < 12; task++) {
            for (int model = 0; model < 3; model++) {
                x.setTime(task, model, 99);
            }
        }
        x.setModels(3);
        x.setRule(1, 20);
        for (int model = 0; model < 3; model++) {
            x.setDemand(model, 9);
        }
        return x;
    }

    // 12 times of 99 and 12 changes of 20
    private static final int HEAVIEST_TIME = 12 * (99 + 20);

    // ---- Promise 16

    @Says(part = "Promise 16", quote = "Puts a task into a station, or takes it out of its station.")
    static void aTaskIsPutIntoTheFirstAndTheLastStationAndTakenOut() {
        LineBalancer x = withTasks(12, 1);
        x.assign(11, 7);
        due(1 << 11, x.station(7, 0));
        x.assign(11, 0);
        due(0, x.station(7, 0));
        due(1 << 11, x.station(0, 0));
        x.assign(11, -1);
        due(0, x.station(0, 0));
        due(-1, x.task(11, 5));
    }

    @Says(part = "Promise 16", quote = "the station, or -1 for none")
    static void noneNeverRefuses() {
        LineBalancer x = withTasks(2, 30);
        x.before(0, 1);
        put(x, 3, 5);
        x.setTime(0, 0, 99);
        x.setRule(0, 10);
        due(3, x.assign(0, -1));
        due(-1, x.assign(0, -1));
        due(5, x.assign(1, -1));
        thrown(ELEMENT, x::whyNot);
    }

    @Says(part = "Promise 16", quote = "Returns the station in which it was, -1 for none.")
    static void assignReturnsTheOldStation() {
        LineBalancer x = withTasks(1, 1);
        due(-1, x.assign(0, -1));
        due(-1, x.assign(0, 0));
        due(0, x.assign(0, 0));
        due(0, x.assign(0, 7));
        due(7, x.assign(0, -1));
        due(-1, x.assign(0, 7));
    }

    @Says(part = "Promise 16", quote = "Throws IndexOutOfBoundsException if there is no such task, or station is "
            + "neither -1 nor a station")
    static void otherTasksAndStationsDoNotExist() {
        LineBalancer x = withTasks(1, 1);
        thrown(INDEX, () -> x.assign(1, 0));
        thrown(INDEX, () -> x.assign(-1, 0));
        thrown(INDEX, () -> x.assign(1, -1));
        for (int v : OUTSIDE) {
            thrown(INDEX, () -> x.assign(v, 0));
            thrown(INDEX, () -> x.assign(v, -1));
            thrown(INDEX, () -> x.assign(0, v));
        }
        due(-1, x.task(0, 5));
    }

    @Says(part = "Promise 16", quote = "Throws UnsupportedOperationException if the station refuses the task")
    static void aRefusedTaskStaysWhereItWas() {
        LineBalancer x = put(withTasks(3, 30), 0, 0, 7);
        thrown(SUPPORTED, () -> x.assign(2, 0));
        due("0 0 7", placesOf(x));
        // its own station may refuse it too
        x.setTime(2, 0, 61);
        thrown(SUPPORTED, () -> x.assign(2, 7));
        due("0 0 7", placesOf(x));
    }

    @Says(part = "Promise 16", quote = "the reason is kept for whyNot")
    static void eachReasonIsKept() {
        LineBalancer x = withTools(1, 2, 0, 0, 0);
        put(x, 4, 4, -1, -1, -1);
        x.setRule(2, 2);
        x.setTime(4, 0, 61);
        thrown(SUPPORTED, () -> x.assign(4, 0));
        due(6, x.whyNot());
        x.setTool(2, 3);
        thrown(SUPPORTED, () -> x.assign(2, 4));
        due(5, x.whyNot());
        x.pair(2, 1, false);
        thrown(SUPPORTED, () -> x.assign(2, 0));
        due(4, x.whyNot());
        x.pair(2, 1, true);
        thrown(SUPPORTED, () -> x.assign(2, 4));
        due(3, x.whyNot());
        x.before(2, 0);
        thrown(SUPPORTED, () -> x.assign(2, 5));
        due(2, x.whyNot());
        x.before(1, 3);
        thrown(SUPPORTED, () -> x.assign(3, 3));
        due(1, x.whyNot());
    }

    // ---- Promise 17

    @Says(part = "Promise 17", quote = "Returns the reason for which a station refuses a task")
    static void theFirstAndTheLastTaskAndStationHaveReasons() {
        LineBalancer x = withTasks(12, 1);
        x.before(0, 11);
        x.assign(0, 7);
        due(1, x.reason(11, 0));
        due(1, x.reason(11, 6));
        due(0, x.reason(11, 7));
        x.assign(0, -1);
        x.assign(11, 0);
        due(2, x.reason(0, 7));
        due(2, x.reason(0, 1));
        due(0, x.reason(0, 0));
    }

    @Says(part = "Promise 17", quote = "nothing changes")
    static void toAskForAReasonKeepsNone() {
        LineBalancer x = withTasks(1, 61);
        due(6, x.reason(0, 0));
        thrown(ELEMENT, x::whyNot);
        due(-1, x.task(0, 5));
        due(0, x.undo());
    }

    @Says(part = "Promise 17", quote = "Returns the reason, 0 if it does not refuse it.")
    static void noReasonIs0() {
        LineBalancer x = withTasks(1, 60);
        for (int station = 0; station < 8; station++) {
            due(0, x.reason(0, station));
        }
        x.assign(0, 3);
        for (int station = 0; station < 8; station++) {
            due(0, x.reason(0, station));
        }
        x.setTime(0, 0, 61);
        for (int station = 0; station < 8; station++) {
            due(6, x.reason(0, station));
        }
    }

    @Says(part = "Promise 17", quote = "Throws IndexOutOfBoundsException if there is no such task or station")
    static void reasonsOfOtherTasksAndStationsDoNotExist() {
        LineBalancer x = withTasks(2, 1);
        thrown(INDEX, () -> x.reason(2, 0));
        thrown(INDEX, () -> x.reason(-1, 0));
        // here -1 is no station
        thrown(INDEX, () -> x.reason(0, -1));
        for (int v : OUTSIDE) {
            thrown(INDEX, () -> x.reason(v, 0));
            thrown(INDEX, () -> x.reason(0, v));
        }
        thrown(INDEX, () -> new LineBalancer().reason(0, 0));
    }

    // ---- Promise 18

    @Says(part = "Promise 18", quote = "Returns the reason that was kept last.")
    static void theLastReasonIsToldAgainAndAgain() {
        LineBalancer x = withTimes(40, 30, 61);
        x.assign(0, 0);
        thrown(SUPPORTED, () -> x.assign(1, 0));
        due(6, x.whyNot());
        x.pair(0, 1, true);
        due(6, x.whyNot());
        thrown(SUPPORTED, () -> x.assign(1, 0));
        due(3, x.whyNot());
        due(3, x.whyNot());
        thrown(SUPPORTED, () -> x.fill(0));
        due(6, x.whyNot());
        x.pair(0, 1, false);
        thrown(SUPPORTED, () -> read(x, "put 1 1"));
        due(4, x.whyNot());
    }

    @Says(part = "Promise 18", quote = "Throws NoSuchElementException if none was kept")
    static void withoutARefusalThereIsNoReason() {
        LineBalancer x = withTimes(61, 30);
        thrown(ELEMENT, x::whyNot);
        x.assign(1, 0);
        due(6, x.reason(0, 0));
        due(-1, x.task(0, 11));
        thrown(INDEX, () -> x.assign(0, 8));
        thrown(ELEMENT, x::least);
        thrown(ELEMENT, x::takeLeast);
        thrown(ARGUMENT, () -> x.fill(4));
        thrown(SUPPORTED, () -> read(x, "put 0 8"));
        thrown(ELEMENT, x::whyNot);
    }

    // ---- Promise 19

    @Says(part = "Promise 19", quote = "0 for the set of its tasks, as bits")
    static void what0IsEmptyOrAllTasks() {
        LineBalancer x = withTasks(12, 0);
        due(0, x.station(0, 0));
        for (int task = 0; task < 12; task++) {
            x.assign(task, 0);
        }
        due(0xfff, x.station(0, 0));
        x.assign(0, 7);
        due(1, x.station(7, 0));
        due(0xffe, x.station(0, 0));
        x.assign(11, -1);
        due(0x7fe, x.station(0, 0));
    }

    @Says(part = "Promise 19", quote = "1 for its copies")
    static void what1IsTheCopies() {
        LineBalancer x = new LineBalancer();
        x.setCopies(0, 3);
        due("3 1", x.station(0, 1) + " " + x.station(7, 1));
        x.setCopies(7, 2);
        due("3 2", x.station(0, 1) + " " + x.station(7, 1));
    }

    @Says(part = "Promise 19", quote = "2 for its load")
    static void what2GoesFrom0ToTheGreatestLoad() {
        LineBalancer x = heaviest();
        due(27 * HEAVIEST_TIME, x.station(0, 2));
        due(0, x.station(7, 2));
        x.clearLine();
        due(0, x.station(0, 2));
    }

    @Says(part = "Promise 19", quote = "3 for 1 if it fits, otherwise 0")
    static void what3Is1UpToTheBound() {
        LineBalancer x = withTasks(1, 60);
        due(1, x.station(0, 3));
        x.assign(0, 0);
        due(1, x.station(0, 3));
        x.setTime(0, 0, 61);
        due(0, x.station(0, 3));
        x.setRule(0, 61);
        due(1, x.station(0, 3));
        x.setRule(3, 1);
        due(1, x.station(0, 3));
        x.setRule(0, 60);
        due(0, x.station(0, 3));
    }

    @Says(part = "Promise 19", quote = "4 for the set of its tools other than 0, as bits")
    static void what4HasTheBits1To5() {
        LineBalancer x = withTools(0, 1, 2, 3, 4, 5, 5);
        due(0, x.station(3, 4));
        x.assign(0, 3);
        due(0, x.station(3, 4));
        x.assign(6, 3);
        due(32, x.station(3, 4));
        x.assign(5, 3);
        due(32, x.station(3, 4));
        x.assign(1, 3);
        due(34, x.station(3, 4));
        for (int task = 2; task < 5; task++) {
            x.assign(task, 3);
        }
        due(62, x.station(3, 4));
        // a tool counts also where no time does
        x.setTime(5, 0, 0);
        x.setTime(6, 0, 0);
        due(62, x.station(3, 4));
        due(0, x.station(2, 4));
    }

    @Says(part = "Promise 19", quote = "5 for what its load lacks to the product of its copies, the cycle time and the "
            + "total demand")
    static void what5IsTheWholeProductForAnEmptyStation() {
        LineBalancer x = withTasks(1, 60);
        due(60, x.station(7, 5));
        x.setModels(3);
        for (int model = 0; model < 3; model++) {
            x.setDemand(model, 9);
        }
        x.setCopies(7, 3);
        x.setRule(0, 999);
        due(80919, x.station(7, 5));
        x.assign(0, 7);
        due(80919 - 540, x.station(7, 5));
        // on average, also where stations have to fit strictly
        x.setRule(3, 1);
        due(80919 - 540, x.station(7, 5));
    }

    @Says(part = "Promise 19", quote = "which can be negative")
    static void what5CanBe0AndNegative() {
        LineBalancer x = withTasks(1, 60);
        x.assign(0, 0);
        due(0, x.station(0, 5));
        x.setTime(0, 0, 61);
        due(-1, x.station(0, 5));
        LineBalancer y = heaviest();
        y.setRule(0, 10);
        due(270 - 27 * HEAVIEST_TIME, y.station(0, 5));
    }

    @Says(part = "Promise 19", quote = "Throws IndexOutOfBoundsException if there is no such station")
    static void numbersOfOtherStationsDoNotExist() {
        LineBalancer x = withTasks(1, 1);
        for (int what = 0; what <= 5; what++) {
            int w = what;
            thrown(INDEX, () -> x.station(-1, w));
            for (int station : OUTSIDE) {
                thrown(INDEX, () -> x.station(station, w));
            }
        }
    }

    @Says(part = "Promise 19", quote = "Throws IllegalArgumentException if what is out of range")
    static void whatMinus1And6AreOutOfRangeForAStation() {
        LineBalancer x = withTasks(1, 1);
        thrown(ARGUMENT, () -> x.station(0, -1));
        thrown(ARGUMENT, () -> x.station(7, 6));
        for (int what : OUTSIDE) {
            thrown(ARGUMENT, () -> x.station(0, what));
        }
    }

    @Says(part = "Promise 19", quote = "Returns a number of a station.")
    static void toAskForAStationIsNoChange() {
        LineBalancer x = new LineBalancer();
        for (int what = 0; what <= 5; what++) {
            x.station(0, what);
        }
        thrown(STATE, x::undo);
    }

    // ---- Promise 20

    @Says(part = "Promise 20", quote = "Returns the time of a station in a model, or the number of its changes.")
    static void theTimeAndTheChangesAreAskedOfEachModel() {
        LineBalancer x = new LineBalancer();
        x.setModels(3);
        x.addTask(1, 10, 0, 1);
        x.addTask(2, 0, 30, 2);
        put(x, 7, 7);
        due("7 10 30", x.time(7, 0, false) + " " + x.time(7, 1, false) + " " + x.time(7, 2, false));
        due("2 0 0", x.time(7, 0, true) + " " + x.time(7, 1, true) + " " + x.time(7, 2, true));
        // the demands count for the load, not for the time
        x.setDemand(0, 9);
        due(7, x.time(7, 0, false));
        // an empty station
        due("0 0", x.time(0, 2, false) + " " + x.time(0, 2, true));
    }

    @Says(part = "Promise 20", quote = "true for the number of changes, false for the time")
    static void theGreatestTimeAndTheMostChanges() {
        LineBalancer x = heaviest();
        for (int model = 0; model < 3; model++) {
            due(12, x.time(0, model, true));
            due(HEAVIEST_TIME, x.time(0, model, false));
        }
    }

    @Says(part = "Promise 20", quote = "Throws IndexOutOfBoundsException if there is no such station, or no such "
            + "model in use")
    static void onlyModelsInUseHaveATime() {
        LineBalancer x = withTasks(1, 1);
        for (int models = 1; models <= 3; models++) {
            x.setModels(models);
            int last = models - 1;
            due(0, x.time(7, last, true));
            thrown(INDEX, () -> x.time(0, last + 1, true));
            thrown(INDEX, () -> x.time(0, last + 1, false));
            thrown(INDEX, () -> x.time(0, -1, false));
            for (int v : OUTSIDE) {
                thrown(INDEX, () -> x.time(0, v, true));
                thrown(INDEX, () -> x.time(v, 0, false));
            }
        }
        thrown(INDEX, () -> x.time(-1, 0, false));
    }

    // ---- Promise 21

    @Says(part = "Promise 21", quote = "Returns a task of the sequence of a station.")
    static void theSequenceOfEachStationIsItsOwn() {
        LineBalancer x = withTasks(4, 1);
        x.before(3, 2);
        put(x, 7, 0, 7, 7);
        due("0 3 2", sequenceOf(x, 7));
        due("1", sequenceOf(x, 0));
        due("", sequenceOf(x, 1));
    }

    @Says(part = "Promise 21", quote = "the place, from 0")
    static void thePlacesGoFrom0() {
        LineBalancer x = withTasks(12, 1);
        for (int task = 0; task < 12; task++) {
            x.assign(task, 3);
        }
        due(0, x.sequence(3, 0));
        due(11, x.sequence(3, 11));
    }

    @Says(part = "Promise 21", quote = "Throws IndexOutOfBoundsException if there is no such station")
    static void sequencesOfOtherStationsDoNotExist() {
        LineBalancer x = withTasks(1, 1);
        x.assign(0, 0);
        thrown(INDEX, () -> x.sequence(-1, 0));
        for (int station : OUTSIDE) {
            thrown(INDEX, () -> x.sequence(station, 0));
            thrown(INDEX, () -> x.sequence(station, -1));
        }
    }

    @Says(part = "Promise 21", quote = "Throws NoSuchElementException if there is no such place")
    static void otherPlacesDoNotExist() {
        LineBalancer x = withTasks(12, 1);
        for (int count = 0; count <= 12; count++) {
            int end = count;
            thrown(ELEMENT, () -> x.sequence(3, end));
            thrown(ELEMENT, () -> x.sequence(3, -1));
            if (count < 12) {
                x.assign(count, 3);
            }
        }
        for (int place : new int[] {12, 13, Integer.MAX_VALUE, Integer.MIN_VALUE}) {
            thrown(ELEMENT, () -> x.sequence(3, place));
        }
    }

    // ---- Promise 22

    @Says(part = "Promise 22", quote = "0 for the number of stations that have tasks")
    static void what0GoesFrom0To8() {
        LineBalancer x = withTasks(9, 1);
        due(0, x.line(0));
        for (int task = 0; task < 8; task++) {
            x.assign(task, 7 - task);
            due(task + 1, x.line(0));
        }
        x.assign(8, 7);
        due(8, x.line(0));
        x.assign(0, 6);
        due(8, x.line(0));
        x.assign(8, 6);
        due(7, x.line(0));
    }

    @Says(part = "Promise 22", quote = "1 for the sum of their copies")
    static void what1LeavesEmptyStationsOut() {
        LineBalancer x = withTasks(8, 0);
        for (int station = 0; station < 8; station++) {
            x.setCopies(station, 3);
        }
        due(0, x.line(1));
        for (int task = 0; task < 8; task++) {
            x.assign(task, task);
            due(3 * (task + 1), x.line(1));
        }
        x.assign(7, 0);
        due(21, x.line(1));
    }

    @Says(part = "Promise 22", quote = "2 for the number of tasks that are in stations")
    static void what2GoesFrom0To12() {
        LineBalancer x = withTasks(12, 1);
        due(0, x.line(2));
        for (int task = 0; task < 12; task++) {
            x.assign(task, task % 8);
            due(task + 1, x.line(2));
        }
        x.assign(0, -1);
        due(11, x.line(2));
    }

    @Says(part = "Promise 22", quote = "3 for the station with the greatest load divided by its copies, as an "
            + "exact fraction")
    static void what3ComparesExactFractions() {
        LineBalancer x = withTimes(50, 17, 16);
        x.setCopies(0, 3);
        put(x, 0, 3, 4);
        // 50 by 3 is more than 16 and less than 17
        due(3, x.line(3));
        x.assign(1, -1);
        due(0, x.line(3));
        x.setCopies(4, 2);
        x.setTime(2, 0, 33);
        // 33 by 2 is less than 50 by 3; 34 by 2 is more
        due(0, x.line(3));
        x.setTime(2, 0, 34);
        due(4, x.line(3));
        LineBalancer y = heaviest();
        due(0, y.line(3));
        y.setCopies(0, 3);
        y.assign(0, -1);
        y.setRule(0, 999);
        // 27 * 99 is less than 27 * 11 * 118 by 3
        y.assign(0, 7);
        due(0, y.line(3));
    }

    @Says(part = "Promise 22", quote = "of several the lowest one")
    static void what3IsTheLowestOfSeveral() {
        LineBalancer x = withTimes(20, 40, 60, 0);
        due(0, x.line(3));
        x.assign(3, 5);
        due(0, x.line(3));
        x.setCopies(2, 2);
        x.setCopies(3, 3);
        put(x, 6, 2, 3);
        due(2, x.line(3));
        x.assign(0, 1);
        due(1, x.line(3));
        x.setTime(2, 0, 61);
        due(3, x.line(3));
        x.setTime(1, 0, 41);
        due(2, x.line(3));
    }

    @Says(part = "Promise 22", quote = "4 for the sum of all loads")
    static void what4GoesFrom0ToTheGreatest() {
        LineBalancer x = heaviest();
        due(27 * HEAVIEST_TIME, x.line(4));
        x.clearLine();
        due(0, x.line(4));
        LineBalancer y = put(withTools(1, 2, 3), 0, 7, 7);
        due(1 + 2 + 4, y.line(4));
    }

    @Says(part = "Promise 22", quote = "5 for the number of tasks in stations that are refused by them")
    static void what5GoesFrom0To12() {
        LineBalancer x = withTasks(12, 5);
        due(0, x.line(5));
        for (int task = 0; task < 12; task++) {
            x.assign(task, 7);
        }
        due(0, x.line(5));
        x.setRule(0, 59);
        due(12, x.line(5));
        x.assign(0, -1);
        due(0, x.line(5));
        // a task that is in no station is refused by none that it is in
        x.setTime(0, 0, 99);
        due(0, x.line(5));
        x.pair(1, 2, true);
        due(2, x.line(5));
    }

    @Says(part = "Promise 22", quote = "6 for the number of stations that do not fit")
    static void what6GoesFrom0To8() {
        LineBalancer x = withTasks(8, 60);
        due(0, x.line(6));
        put(x, 0, 1, 2, 3, 4, 5, 6, 7);
        due(0, x.line(6));
        x.setRule(0, 59);
        due(8, x.line(6));
        x.setCopies(7, 2);
        due(7, x.line(6));
        x.setRule(3, 1);
        due(7, x.line(6));
        x.clearLine();
        due(0, x.line(6));
    }

    @Says(part = "Promise 22", quote = "7 for the sum of all weighted times divided by the product of the cycle "
            + "time and the total demand, rounded up")
    static void what7IsRoundedUp() {
        LineBalancer x = withTasks(2, 0);
        due(0, x.line(7));
        x.setTime(0, 0, 1);
        due(1, x.line(7));
        x.setTime(0, 0, 60);
        due(1, x.line(7));
        x.setTime(1, 0, 1);
        due(2, x.line(7));
        x.setTime(1, 0, 60);
        due(2, x.line(7));
        x.setDemand(0, 9);
        due(2, x.line(7));
        x.setModels(2);
        x.setDemand(1, 2);
        // 9 * 120 by 60 * 11
        due(2, x.line(7));
        x.setDemand(1, 9);
        due(1, x.line(7));
        // tool changes do not count, and copies do not, and tasks count that are in no station
        LineBalancer y = heaviest();
        y.clearLine();
        y.setRule(0, 10);
        due((27 * 12 * 99 + 269) / 270, y.line(7));
        y.setRule(0, 999);
        due(2, y.line(7));
    }

    @Says(part = "Promise 22", quote = "Throws IllegalArgumentException if what is out of range")
    static void whatMinus1And8AreOutOfRange() {
        LineBalancer x = new LineBalancer();
        thrown(ARGUMENT, () -> x.line(-1));
        for (int what : OUTSIDE) {
            thrown(ARGUMENT, () -> x.line(what));
        }
    }

    @Says(part = "Promise 22", quote = "Returns a number of the line.")
    static void toAskForTheLineIsNoChange() {
        LineBalancer x = new LineBalancer();
        for (int what = 0; what <= 7; what++) {
            due(0, x.line(what));
        }
        thrown(STATE, x::undo);
    }

    // ---- Promise 23

    @Says(part = "Promise 23", quote = "the sum of the weighted times of all tasks that are in stations")
    static void efficiencyCountsTasksInStationsWithoutChanges() {
        LineBalancer x = withTools(1, 2, 3);
        put(x, 0, 0);
        due(2f / 60f, x.efficiency());
        x.assign(2, 0);
        due(3f / 60f, x.efficiency());
        x.setTime(0, 0, 0);
        x.setTime(1, 0, 0);
        x.setTime(2, 0, 0);
        due(0.0f, x.efficiency());
    }

    @Says(part = "Promise 23", quote = "divided by the product of the sum of the copies of stations that have "
            + "tasks, the cycle time and the total demand")
    static void efficiencyCountsCopiesOfStationsWithTasks() {
        LineBalancer x = withTasks(8, 60);
        x.setModels(2);
        x.setDemand(0, 9);
        x.setCopies(7, 3);
        x.assign(0, 0);
        due(540f / 600f, x.efficiency());
        x.assign(0, 7);
        due(540f / 1800f, x.efficiency());
        for (int task = 0; task < 8; task++) {
            x.assign(task, task);
        }
        due(4320f / 6000f, x.efficiency());
        // it may be more than 1
        x.setModels(1);
        x.setRule(0, 10);
        due(4320f / 900f, x.efficiency());
    }

    @Says(part = "Promise 23", quote = "both converted to float")
    static void efficiencyIsAQuotientOfFloats() {
        LineBalancer x = withTimes(10, 7, 99);
        x.assign(0, 0);
        due(10f / 60f, x.efficiency());
        due(true, x.efficiency() == 0.16666667f);
        x.setRule(0, 999);
        put(x, 0, 1, 2);
        due(116f / 2997f, x.efficiency());
        for (int cycle = 10; cycle < 400; cycle++) {
            LineBalancer y = withTasks(1, 1);
            y.assign(0, 0);
            y.setRule(0, cycle);
            due(1f / (float) cycle, y.efficiency());
        }
    }

    @Says(part = "Promise 23", quote = "Throws ArithmeticException if no station has tasks")
    static void efficiencyNeedsATaskInAStation() {
        LineBalancer x = withTasks(1, 1);
        thrown(ARITHMETIC, () -> new LineBalancer().efficiency());
        thrown(ARITHMETIC, x::efficiency);
        x.assign(0, 7);
        due(1f / 60f, x.efficiency());
        x.assign(0, -1);
        thrown(ARITHMETIC, x::efficiency);
        x.assign(0, 0);
        x.clearLine();
        thrown(ARITHMETIC, x::efficiency);
    }

    // ---- Promise 24

    @Says(part = "Promise 24", quote = "the sum, over all stations that have tasks")
    static void unevennessLeavesEmptyStationsOut() {
        LineBalancer x = withTimes(0, 59, 61);
        due(0, x.unevenness());
        x.assign(0, 7);
        due(3600, x.unevenness());
        x.assign(1, 0);
        due(3601, x.unevenness());
        x.assign(0, 0);
        due(1, x.unevenness());
        x.clearLine();
        due(0, x.unevenness());
    }

    @Says(part = "Promise 24", quote = "of the square of what their load lacks, as told for station")
    static void unevennessIsASumOfSquaresAlsoOfNegativeNumbers() {
        LineBalancer x = withTasks(2, 60);
        put(x, 0, 1);
        due(0, x.unevenness());
        x.setTime(0, 0, 70);
        due(100, x.unevenness());
        x.setTime(1, 0, 50);
        due(200, x.unevenness());
        LineBalancer y = heaviest();
        y.setRule(0, 10);
        long lack = 270 - 27 * HEAVIEST_TIME;
        due(lack * lack, y.unevenness());
        // more than an int holds: in each station
        LineBalancer z = withTasks(8, 0);
        put(z, 0, 1, 2, 3, 4, 5, 6, 7);
        z.setRule(0, 999);
        z.setModels(3);
        for (int model = 0; model < 3; model++) {
            z.setDemand(model, 9);
        }
        due(8L * 26973 * 26973, z.unevenness());
        for (int station = 0; station < 8; station++) {
            z.setCopies(station, 3);
        }
        due(8L * 80919 * 80919, z.unevenness());
    }

    // ---- Promise 25

    @Says(part = "Promise 25", quote = "Takes all tasks out of their stations.")
    static void clearLineLeavesNoTaskInAStation() {
        LineBalancer x = withTasks(12, 1);
        for (int task = 0; task < 12; task++) {
            x.assign(task, task % 8);
        }
        x.setTime(0, 0, 99);
        x.clearLine();
        for (int task = 0; task < 12; task++) {
            due(-1, x.task(task, 5));
        }
        for (int station = 0; station < 8; station++) {
            due(0, x.station(station, 0));
        }
        due(12, x.size());
    }

    @Says(part = "Promise 25", quote = "Returns the number of tasks that were in stations.")
    static void clearLineReturns0To12() {
        LineBalancer x = withTasks(12, 1);
        due(0, x.clearLine());
        x.assign(11, 0);
        due(1, x.clearLine());
        due(0, x.clearLine());
        for (int task = 0; task < 12; task++) {
            x.assign(task, 7);
        }
        due(12, x.clearLine());
        due(0, new LineBalancer().clearLine());
    }

    // ---- Promise 26

    @Says(part = "Promise 26", quote = "all tasks are taken out of their stations")
    static void whereTheTasksWereMeansNothingForFill() {
        LineBalancer x = withTasks(3, 20);
        x.before(0, 1);
        x.pair(1, 2, true);
        put(x, 7, 7, 3);
        due(2, x.fill(3));
        due("0 0 1", placesOf(x));
        // even a line whose tasks are refused
        x.setRule(0, 20);
        due(2, x.line(5));
        due(3, x.fill(3));
        due("0 1 2", placesOf(x));
    }

    @Says(part = "Promise 26", quote = "of the tasks that are in no station while all tasks before them are in "
            + "stations")
    static void aTaskWaitsForAllThatAreBeforeIt() {
        LineBalancer x = withTimes(30, 20, 10, 5, 59);
        x.before(1, 0);
        x.before(2, 1);
        // the greatest first, but 0 after 1 after 2: 4, 2, 1, 0, 3
        due(3, x.fill(1));
        due("1 1 1 2 0", placesOf(x));
        LineBalancer y = withTasks(12, 30);
        for (int task = 11; task > 0; task--) {
            y.before(task, task - 1);
        }
        due(6, y.fill(3));
        due("5 5 4 4 3 3 2 2 1 1 0 0", placesOf(y));
    }

    @Says(part = "Promise 26", quote = "the one with the greatest priority, of several the lowest one")
    static void ofEqualPrioritiesTheLowestTaskIsFirst() {
        LineBalancer x = withTimes(20, 25, 25, 40, 0);
        // 3, 1, 2, 0, 4: 40 alone leaves 20
        due(2, x.fill(1));
        due("0 1 1 0 0", placesOf(x));
        due(3, x.fill(3));
        due("0 0 1 2 0", placesOf(x));
        // all priorities 0
        due(3, x.fill(2));
        due("0 0 1 2 0", placesOf(x));
        x.before(2, 4);
        // 2 (1), 0, 1, 3, 4
        due(3, x.fill(2));
        due("0 1 0 2 0", placesOf(x));
    }

    @Says(part = "Promise 26", quote = "is put into the lowest station that does not refuse it")
    static void fillUsesTheStationsFrom0To7() {
        LineBalancer x = withTasks(8, 60);
        due(8, x.fill(0));
        due("0 1 2 3 4 5 6 7", placesOf(x));
        x.addTask(0, 0, 0, 0);
        due(8, x.fill(0));
        due("0 1 2 3 4 5 6 7 0", placesOf(x));
        x.setTime(8, 0, 1);
        thrown(SUPPORTED, () -> x.fill(0));
        x.setCopies(6, 2);
        // the tasks 6 and 7 are put there, so that the last one is free for the task 8
        due(8, x.fill(0));
        due("0 1 2 3 4 5 6 6 7", placesOf(x));
    }

    @Says(part = "Promise 26", quote = "the priority, 0 to 3")
    static void eachPriorityFillsInItsOwnOrder() {
        LineBalancer x = withTimes(10, 50, 30, 45);
        x.before(0, 1);
        x.before(2, 3);
        // 2 (75), 0 (60) and 1 (50), 3 (45)
        due(3, x.fill(0));
        due("0 1 0 2", placesOf(x));
        // 2 (30), 3 (45), 0 (10), 1 (50)
        due(3, x.fill(1));
        due("0 2 0 1", placesOf(x));
        // 0 and 2 (1), then 1 and 3
        due(3, x.fill(2));
        due("0 1 0 2", placesOf(x));
        // 0, 1, 2, 3
        due(3, x.fill(3));
        due("0 0 1 2", placesOf(x));
    }

    @Says(part = "Promise 26", quote = "Returns the number of stations that have tasks.")
    static void fillReturns0To8() {
        due(0, new LineBalancer().fill(0));
        due(1, withTasks(12, 5).fill(0));
        due(2, withTasks(12, 6).fill(1));
        due(6, withTasks(12, 30).fill(2));
        due(8, withTasks(8, 60).fill(3));
        // a station between may stay empty
        LineBalancer x = withTimes(70, 70);
        x.setCopies(1, 2);
        x.setCopies(6, 2);
        due(2, x.fill(0));
        due("1 6", placesOf(x));
    }

    @Says(part = "Promise 26", quote = "Throws IllegalArgumentException if there is no such priority")
    static void fillKnowsNoOtherPriorities() {
        LineBalancer x = put(withTasks(2, 1), 5, 6);
        thrown(ARGUMENT, () -> x.fill(-1));
        thrown(ARGUMENT, () -> x.fill(4));
        for (int priority : OUTSIDE) {
            thrown(ARGUMENT, () -> x.fill(priority));
        }
        due("5 6", placesOf(x));
    }

    @Says(part = "Promise 26", quote = "Throws UnsupportedOperationException if all stations refuse a task")
    static void oneTaskThatAllStationsRefuseIsEnough() {
        LineBalancer x = withTasks(12, 1);
        x.setTime(11, 0, 61);
        thrown(SUPPORTED, () -> x.fill(3));
        x.setCopies(7, 2);
        due(2, x.fill(3));
        due(7, x.task(11, 5));
        // nine tasks of which each needs a station
        LineBalancer y = withTasks(9, 31);
        thrown(SUPPORTED, () -> y.fill(0));
    }

    @Says(part = "Promise 26", quote = "the reason of the station 7 is kept for whyNot")
    static void theReasonOfTheLastStationIsKept() {
        LineBalancer x = withTimes(60, 10);
        x.setCopies(7, 2);
        x.setTime(0, 0, 61);
        x.pair(0, 1, true);
        x.setTime(1, 0, 61);
        // all others refuse the task 1 because it does not fit, the station 7 because of the pair
        thrown(SUPPORTED, () -> x.fill(3));
        due(3, x.whyNot());
        LineBalancer y = withTimes(10, 20, 45);
        y.pair(0, 2, false);
        y.before(1, 2);
        // 0 and 1 fill the station 0, so that it refuses the task 2 for 6, and all others for 4
        thrown(SUPPORTED, () -> y.fill(3));
        due(4, y.whyNot());
    }

    @Says(part = "Promise 26", quote = "and the line stays as it was")
    static void aFillThatFailsMovesNoTask() {
        LineBalancer x = put(withTimes(20, 20, 20, 60), 3, 4, 5, 7);
        x.setTime(3, 0, 61);
        for (int p = 0; p <= 3; p++) {
            int priority = p;
            thrown(SUPPORTED, () -> x.fill(priority));
            due("3 4 5 7", placesOf(x));
        }
        due(7, x.undo());
        due(60, x.task(3, 0));
        due("3 4 5 7", placesOf(x));
    }
}
