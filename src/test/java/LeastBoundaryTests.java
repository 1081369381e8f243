import java.util.List;

/** A test for each sentence of the promises 27 to 29 that names a boundary case. */
public final class LeastBoundaryTests extends Checks {
    public static void main(String[] args) throws Exception {
        runAll(LeastBoundaryTests.class, List.of("Promise 27", "Promise 28", "Promise 29"));
    }

    private static final int[] OUTSIDE = {Integer.MIN_VALUE, -1000000, -1, 9, 1000000, Integer.MAX_VALUE};

    /** Tasks that must all be apart from one another. */
    private static LineBalancer allApart(int count) {
        LineBalancer x = withTasks(count, 0);
        for (int task = 0; task < count; task++) {
            for (int other = 0; other < task; other++) {
                x.pair(task, other, true);
            }
        }
        return x;
    }

    // ---- Promise 27

    @Says(part = "Promise 27", quote = "Returns the least number n, from 0 to 8, for which there is a line with "
            + "n stations.")
    static void leastGoesFrom0To8() {
        due(0, new LineBalancer().least());
        for (int count = 1; count <= 8; count++) {
            due(count, withTasks(count, 60).least());
            due(count, allApart(count).least());
            due(1, withTasks(count, 7).least());
        }
    }

    @Says(part = "Promise 27", quote = "Returns the least number n")
    static void leastCountsEmptyStationsBelow() {
        LineBalancer x = withTasks(1, 61);
        for (int station = 7; station >= 0; station--) {
            x.setCopies(station, 2);
            due(station + 1, x.least());
        }
        LineBalancer y = withTasks(2, 30);
        y.before(1, 0);
        due(1, y.least());
        y.setTime(0, 0, 31);
        due(2, y.least());
        y.setTime(1, 0, 99);
        y.setCopies(4, 2);
        due(6, y.least());
    }

    @Says(part = "Promise 27", quote = "Throws IllegalStateException if there are more than 8 tasks")
    static void leastIsNotToldOfNineTasks() {
        LineBalancer x = withTasks(8, 0);
        due(1, x.least());
        x.addTask(0, 0, 0, 0);
        thrown(STATE, x::least);
        x.undo();
        due(1, x.least());
        thrown(STATE, () -> withTasks(12, 0).least());
    }

    @Says(part = "Promise 27", quote = "Throws NoSuchElementException if there is no line with 8 stations")
    static void leastNeedsALine() {
        LineBalancer x = withTasks(8, 60);
        due(8, x.least());
        x.setTime(7, 0, 61);
        thrown(ELEMENT, x::least);
        x.setCopies(7, 2);
        due(8, x.least());
        LineBalancer y = withTasks(3, 1);
        y.pair(0, 1, false);
        y.pair(1, 2, false);
        y.pair(0, 2, true);
        thrown(ELEMENT, y::least);
        y.drop(0, 2);
        due(1, y.least());
    }

    // ---- Promise 28

    @Says(part = "Promise 28", quote = "Returns the number of different lines with n stations.")
    static void waysGoFrom0ToAllOfThem() {
        LineBalancer x = withTasks(8, 0);
        for (int stations = 0; stations <= 8; stations++) {
            long all = 1;
            for (int task = 0; task < 8; task++) {
                all *= stations;
            }
            due(all, x.ways(stations));
        }
        LineBalancer y = withTasks(8, 60);
        due(0, y.ways(7));
        due(40320, y.ways(8));
        for (int task = 1; task < 8; task++) {
            y.before(task, task - 1);
        }
        due(1, y.ways(8));
        // 8 tasks in one station or in the next ones: the chain may not go down
        for (int task = 0; task < 8; task++) {
            y.setTime(task, 0, 0);
        }
        due(1, y.ways(1));
        due(9, y.ways(2));
        due(6435, y.ways(8));
    }

    @Says(part = "Promise 28", quote = "Returns the number of lines.")
    static void toCountLinesMovesNoTask() {
        LineBalancer x = put(withTasks(2, 30), 7, 6);
        due(4, x.ways(2));
        due(64, x.ways(8));
        due("7 6", placesOf(x));
        due(3, x.undo());
        due(4, x.ways(2));
    }

    @Says(part = "Promise 28", quote = "the number n, 0 to 8")
    static void noAndEightStationsAreTheBounds() {
        LineBalancer none = new LineBalancer();
        for (int stations = 0; stations <= 8; stations++) {
            due(1, none.ways(stations));
        }
        LineBalancer x = withTasks(1, 0);
        due(0, x.ways(0));
        due(8, x.ways(8));
    }

    @Says(part = "Promise 28", quote = "Throws IllegalArgumentException if the number is out of range")
    static void waysMinus1And9AreOutOfRange() {
        for (int tasks : new int[] {0, 8, 9}) {
            LineBalancer x = withTasks(tasks, 0);
            for (int stations : OUTSIDE) {
                thrown(ARGUMENT, () -> x.ways(stations));
            }
        }
    }

    @Says(part = "Promise 28", quote = "Throws IllegalStateException if there are more than 8 tasks")
    static void waysAreNotToldOfNineTasks() {
        LineBalancer x = withTasks(8, 0);
        due(256, x.ways(2));
        x.addTask(0, 0, 0, 0);
        for (int stations = 0; stations <= 8; stations++) {
            int n = stations;
            thrown(STATE, () -> x.ways(n));
        }
        x.undo();
        due(256, x.ways(2));
        thrown(STATE, () -> withTasks(12, 99).ways(0));
    }

    // ---- Promise 29

    @Says(part = "Promise 29", quote = "Makes the present line a line with the least number of stations")
    static void theLeastNumberIsMoreThanTheLowestPlaces() {
        // with 3 stations the task 0 could be in the station 0, with 2 it can not
        LineBalancer x = withTimes(20, 90, 60);
        x.setCopies(1, 2);
        x.setCopies(2, 2);
        x.takeLeast();
        due("1 1 0", placesOf(x));
        due(0, x.line(5));
        due(2, x.least());
        // fill needs more
        LineBalancer y = withTimes(30, 20, 40, 30);
        due(3, y.fill(3));
        due(2, y.takeLeast());
        due("0 1 1 0", placesOf(y));
    }

    @Says(part = "Promise 29", quote = "of all of them the one in which the task 0 is in the lowest station, "
            + "then the task 1, and so on")
    static void theFirstOfAllLeastLinesIsTaken() {
        LineBalancer x = withTasks(8, 20);
        x.takeLeast();
        due("0 0 0 1 1 1 2 2", placesOf(x));
        x.pair(0, 1, true);
        x.takeLeast();
        due("0 1 0 0 1 1 2 2", placesOf(x));
        x.before(7, 0);
        x.takeLeast();
        due("0 1 0 1 1 2 2 0", placesOf(x));
        x.pair(7, 6, false);
        x.takeLeast();
        due("0 1 1 1 2 2 0 0", placesOf(x));
        // the station 1 stays empty, though the tasks 0 and 1 could be there
        LineBalancer gap = withTimes(10, 10, 90);
        gap.setCopies(2, 2);
        gap.takeLeast();
        due("0 0 2", placesOf(gap));
        LineBalancer y = withTasks(8, 60);
        for (int task = 1; task < 8; task++) {
            y.before(task, task - 1);
        }
        y.takeLeast();
        due("7 6 5 4 3 2 1 0", placesOf(y));
    }

    @Says(part = "Promise 29", quote = "Returns the number of tasks that are in another station than before, or "
            + "were in none.")
    static void takeLeastReturns0To8() {
        due(0, new LineBalancer().takeLeast());
        LineBalancer x = withTasks(8, 60);
        due(8, x.takeLeast());
        due(0, x.takeLeast());
        x.assign(7, -1);
        due(1, x.takeLeast());
        x.assign(7, -1);
        x.assign(6, 7);
        x.assign(7, 6);
        due(2, x.takeLeast());
        due("0 1 2 3 4 5 6 7", placesOf(x));
        x.clearLine();
        due(8, x.takeLeast());
    }

    @Says(part = "Promise 29", quote = "Throws IllegalStateException if there are more than 8 tasks")
    static void nineTasksStayWhereTheyAre() {
        LineBalancer x = withTasks(9, 0);
        put(x, 1, 2, 3);
        thrown(STATE, x::takeLeast);
        due("1 2 3 -1 -1 -1 -1 -1 -1", placesOf(x));
        thrown(STATE, () -> withTasks(12, 99).takeLeast());
        due(8, withTasks(8, 0).takeLeast());
    }

    @Says(part = "Promise 29", quote = "Throws NoSuchElementException if there is no line with 8 stations")
    static void withoutALineTheTasksStay() {
        LineBalancer x = put(withTasks(3, 60), 7, 6, 5);
        x.setTime(1, 0, 61);
        thrown(ELEMENT, x::takeLeast);
        due("7 6 5", placesOf(x));
        thrown(ELEMENT, x::whyNot);
        x.setCopies(7, 3);
        due(3, x.takeLeast());
        due("0 7 1", placesOf(x));
    }
}
