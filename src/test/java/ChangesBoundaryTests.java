import java.util.List;
import java.util.function.Supplier;

/** A test for each sentence on changes, on exceptions and on what is in doubt, through all methods. */
public final class ChangesBoundaryTests extends Checks {
    public static void main(String[] args) throws Exception {
        runAll(ChangesBoundaryTests.class, List.of("Changes", "Exceptions", "In doubt"));
    }

    /** Four tasks, and a command that is begun in the input. */
    private static LineBalancer sample() {
        LineBalancer x = ofFourTasks();
        feed(x, "put");
        return x;
    }

    private static LineBalancer ofNineTasks() {
        LineBalancer x = withTasks(9, 20);
        x.assign(3, 3);
        return x;
    }

    private static LineBalancer ofTwelveTasks() {
        LineBalancer x = withTasks(12, 20);
        x.assign(11, 3);
        return x;
    }

    private static LineBalancer withoutLine() {
        LineBalancer x = withTimes(20, 99);
        x.setModels(2);
        x.setModels(1);
        x.assign(0, 5);
        return x;
    }

    private static LineBalancer withFullInput() {
        LineBalancer x = sample();
        feed(x, "x".repeat(77));
        return x;
    }

    private static LineBalancer ofNothing() {
        return new LineBalancer();
    }

    // ---- Changes

    private static final List<CallOf> CHANGES = List.of(x -> x.setModels(3), x -> x.setDemand(2, 5),
            x -> x.setRule(1, 7), x -> x.setCopies(6, 3), x -> x.addTask(9, 9, 9, 4), x -> x.setTime(2, 1, 11),
            x -> x.setTool(0, 5), x -> x.before(0, 2), x -> x.pair(1, 2, false), x -> x.drop(1, 0),
            x -> x.assign(3, 7), x -> x.fill(0), x -> x.takeLeast(), x -> x.clearLine());

    @Says(part = "Changes", quote = "setModels, setDemand, setRule, setCopies, addTask, setTime, setTool, "
            + "before, pair, drop, assign, fill, takeLeast and clearLine")
    static void eachOfTheseCallsIsOneChange() {
        for (CallOf change : CHANGES) {
            LineBalancer x = sample();
            x.save();
            x.restore();
            String old = answers(x);
            change.answer(x);
            due(0, x.undo());
            due(old, answers(x));
            thrown(STATE, x::undo);
        }
    }

    private static final List<CallOf> NO_CHANGES = List.of(x -> x.rule(0), x -> x.task(0, 11), x -> x.priority(0, 0),
            x -> x.size(), x -> x.reason(0, 7), x -> x.station(0, 2), x -> x.time(0, 0, true),
            x -> x.sequence(1, 1), x -> x.line(3), x -> x.efficiency(), x -> x.unevenness(), x -> x.least(),
            x -> x.ways(4), x -> x.feed('u'), x -> x.save());

    @Says(part = "Changes", quote = "The changes are the calls without an exception of")
    static void noOtherCallIsAChange() {
        for (CallOf call : NO_CHANGES) {
            LineBalancer x = sample();
            x.save();
            x.restore();
            x.setDemand(0, 1);
            String old = answers(x);
            call.answer(x);
            due(old, answers(x));
            due(0, x.undo());
            call.answer(x);
            thrown(STATE, x::undo);
        }
        // undo itself, restore, and calls with an exception
        LineBalancer y = sample();
        due(7, y.undo());
        due(6, y.undo());
        thrown(ARGUMENT, () -> y.setModels(4));
        due(5, y.undo());
        y.save();
        y.restore();
        thrown(STATE, y::undo);
    }

    @Says(part = "Changes", quote = "and those of read that return no error position")
    static void aReadIsOneChangeUnlessItHasAnError() {
        LineBalancer x = withTasks(2, 10);
        String old = answers(x);
        due(3, read(x, "cycle 70;put 0 1;task 1 1 1 1"));
        due(2, x.undo());
        due(old, answers(x));
        due(-100, read(x, ""));
        due(-108, read(x, "cycle 70x"));
        due(-109, read(x, "cycle 70;"));
        thrown(SUPPORTED, () -> read(x, "cycle 70;cycle 9"));
        due(1, x.undo());
        due(1, x.size());
    }

    private static final List<CallOf> IDLE = List.of(x -> x.setModels(2), x -> x.setDemand(2, 2), x -> x.setRule(0, 60),
            x -> x.setCopies(4, 2), x -> x.setTime(0, 0, 30), x -> x.setTool(0, 1), x -> x.pair(0, 3, true),
            x -> x.assign(0, 1), x -> x.assign(3, -1), x -> read(x, " 0 1"), x -> read(x, " 0 1;cycle 60"));
    private static final List<CallOf> IDLE_WHEN_CALLED_AGAIN = List.of(x -> x.clearLine(), x -> x.takeLeast(),
            x -> x.fill(0), x -> x.fill(3));

    @Says(part = "Changes", quote = "also if nothing is different afterwards")
    static void aCallThatChangesNothingIsAChange() {
        for (CallOf call : IDLE) {
            checkIdle(sample(), call);
        }
        for (CallOf call : IDLE_WHEN_CALLED_AGAIN) {
            LineBalancer x = sample();
            call.answer(x);
            checkIdle(x, call);
        }
    }

    private static void checkIdle(LineBalancer x, CallOf call) {
        x.save();
        x.restore();
        String old = answers(x);
        call.answer(x);
        due(old, answers(x));
        due(0, x.undo());
        due(old, answers(x));
    }

    @Says(part = "Changes", quote = "The latest 8 of them can be undone.")
    static void eightChangesCanBeUndoneAndNotTheNinth() {
        // so many changes that the room of 8 is used again and again
        for (int count = 0; count <= 40; count++) {
            LineBalancer x = new LineBalancer();
            for (int i = 1; i <= count; i++) {
                x.setRule(0, 100 + i);
            }
            int left = Math.min(count, 8);
            for (int i = 1; i <= left; i++) {
                due(left - i, x.undo());
                due(count == i ? 60 : 100 + count - i, x.rule(0));
            }
            thrown(STATE, x::undo);
            due(count <= 8 ? 60 : 100 + count - 8, x.rule(0));
        }
    }

    // ---- Exceptions

    /** A call that throws, on an object; its twin is made in the same way and is not called. */
    private static void refused(Supplier<LineBalancer> made, Class<?> want, CallOf call) {
        LineBalancer x = made.get();
        LineBalancer twin = made.get();
        thrown(want, () -> call.answer(x));
        due(answers(twin), answers(x));
        for (int i = 0; i < 9; i++) {
            due(undoOf(twin), undoOf(x));
        }
        due(answers(twin), answers(x));
    }

    private static String undoOf(LineBalancer x) {
        try {
            return x.undo() + " " + placesOf(x) + " " + x.rule(0);
        } catch (IllegalStateException e) {
            return "nothing";
        }
    }

    @Says(part = "Exceptions", quote = "A method that throws an exception leaves the state unchanged")
    static void noRefusedCallOfRulesAndTasksLeavesATrace() {
        Supplier<LineBalancer> four = ChangesBoundaryTests::sample;
        refused(four, ARGUMENT, x -> x.setModels(4));
        refused(four, INDEX, x -> x.setDemand(3, 3));
        refused(four, ARGUMENT, x -> x.setDemand(0, 10));
        refused(four, ARGUMENT, x -> x.setRule(0, 1000));
        refused(four, ARGUMENT, x -> x.setRule(4, 1));
        refused(four, ARGUMENT, x -> x.rule(9));
        refused(four, INDEX, x -> x.setCopies(8, 1));
        refused(four, ARGUMENT, x -> x.setCopies(4, 4));
        refused(four, ARGUMENT, x -> x.addTask(5, 5, 5, 6));
        refused(ChangesBoundaryTests::ofTwelveTasks, STATE, x -> x.addTask(5, 5, 5, 5));
        refused(four, INDEX, x -> x.setTime(4, 0, 5));
        refused(four, ARGUMENT, x -> x.setTime(0, 0, 100));
        refused(four, INDEX, x -> x.setTool(4, 5));
        refused(four, ARGUMENT, x -> x.setTool(0, 6));
        refused(four, INDEX, x -> x.before(0, 4));
        refused(four, ARGUMENT, x -> x.before(3, 3));
        refused(four, ARGUMENT, x -> x.before(0, 1));
        refused(four, SUPPORTED, x -> x.before(2, 0));
        refused(four, INDEX, x -> x.pair(4, 0, false));
        refused(four, ARGUMENT, x -> x.pair(0, 0, false));
        refused(four, INDEX, x -> x.drop(4, 0));
        refused(four, ELEMENT, x -> x.drop(0, 2));
        refused(four, INDEX, x -> x.task(4, 0));
        refused(four, ARGUMENT, x -> x.task(0, 12));
        refused(four, INDEX, x -> x.priority(4, 0));
        refused(four, ARGUMENT, x -> x.priority(0, 4));
    }

    @Says(part = "Exceptions", quote = "A method that throws an exception leaves the state unchanged")
    static void noRefusedCallOfTheLineLeavesATrace() {
        Supplier<LineBalancer> four = ChangesBoundaryTests::sample;
        refused(four, INDEX, x -> x.assign(4, 0));
        refused(four, INDEX, x -> x.assign(0, 8));
        refused(four, SUPPORTED, x -> x.assign(0, 7));
        refused(four, SUPPORTED, x -> x.assign(3, 1));
        refused(four, INDEX, x -> x.reason(0, 8));
        refused(four, ELEMENT, x -> x.whyNot());
        refused(four, INDEX, x -> x.station(8, 0));
        refused(four, ARGUMENT, x -> x.station(0, 6));
        refused(four, INDEX, x -> x.time(0, 2, true));
        refused(four, INDEX, x -> x.sequence(8, 0));
        refused(four, ELEMENT, x -> x.sequence(1, 2));
        refused(four, ARGUMENT, x -> x.line(8));
        refused(ChangesBoundaryTests::ofNothing, ARITHMETIC, x -> x.efficiency());
        refused(four, ARGUMENT, x -> x.fill(4));
        refused(ChangesBoundaryTests::withoutLine, SUPPORTED, x -> x.fill(3));
        refused(ChangesBoundaryTests::withoutLine, ELEMENT, x -> x.least());
        refused(ChangesBoundaryTests::withoutLine, ELEMENT, x -> x.takeLeast());
        refused(ChangesBoundaryTests::ofNineTasks, STATE, x -> x.least());
        refused(ChangesBoundaryTests::ofNineTasks, STATE, x -> x.takeLeast());
        refused(ChangesBoundaryTests::ofNineTasks, STATE, x -> x.ways(8));
        refused(four, ARGUMENT, x -> x.ways(9));
        refused(ChangesBoundaryTests::withFullInput, STATE, x -> x.feed('x'));
        refused(four, SUPPORTED, x -> read(x, " 0 0;cycle 70;before 0 2;task 1 1 1 1;put 4 9"));
        refused(four, SUPPORTED, x -> read(x, " 3 7;apart 1 2;together 0 3;cycle 70;put 0 7"));
        refused(ChangesBoundaryTests::ofNothing, STATE, x -> x.undo());
        refused(four, STATE, x -> x.restore());
    }

    @Says(part = "Exceptions", quote = "except that the reason and the input are treated as described")
    static void onlyTheReasonAndTheInputAreOthers() {
        LineBalancer x = sample();
        thrown(SUPPORTED, () -> x.assign(0, 7));
        due(2, x.whyNot());
        due(4, x.feed(' '));
        thrown(SUPPORTED, () -> read(x, "3 1"));
        due(3, x.whyNot());
        due(1, x.feed('p'));
        // calls that throw something else leave the reason and the input
        thrown(INDEX, () -> x.assign(0, 8));
        thrown(ARGUMENT, () -> x.fill(4));
        thrown(SUPPORTED, () -> x.before(2, 0));
        due(3, x.whyNot());
        due(2, x.feed('u'));
    }

    @Says(part = "Exceptions", quote = "The exceptions of a method are checked in the order in which they are listed.")
    static void theFirstExceptionOfSeveralIsThrown() {
        LineBalancer x = ofNineTasks();
        thrown(INDEX, () -> x.setDemand(3, 0));
        thrown(INDEX, () -> x.setCopies(8, 0));
        thrown(INDEX, () -> x.setTime(9, 0, 100));
        thrown(INDEX, () -> x.setTime(0, 3, 100));
        thrown(INDEX, () -> x.setTool(9, 6));
        thrown(INDEX, () -> x.before(9, 9));
        thrown(INDEX, () -> x.pair(9, 9, true));
        thrown(INDEX, () -> x.drop(9, 9));
        thrown(INDEX, () -> x.drop(0, 9));
        thrown(INDEX, () -> x.task(9, 12));
        thrown(INDEX, () -> x.priority(9, 4));
        thrown(INDEX, () -> x.assign(9, 0));
        thrown(INDEX, () -> x.assign(0, -2));
        thrown(INDEX, () -> x.station(8, 6));
        thrown(INDEX, () -> x.sequence(8, 0));
        thrown(ARGUMENT, () -> x.ways(9));
        // no station takes the task 0, and there is no line
        x.setTime(0, 0, 99);
        thrown(ARGUMENT, () -> x.fill(4));
        thrown(ELEMENT, x::whyNot);
        thrown(STATE, x::least);
        thrown(STATE, x::takeLeast);
        LineBalancer full = ofTwelveTasks();
        thrown(ARGUMENT, () -> full.addTask(100, 0, 0, 0));
        thrown(ARGUMENT, () -> full.addTask(0, 0, 0, 6));
        thrown(STATE, () -> full.addTask(0, 0, 0, 5));
    }

    // ---- In doubt

    private static final List<CallOf> SETTINGS = List.of(x -> x.setModels(3), x -> x.setDemand(1, 9),
            x -> x.setRule(0, 10), x -> x.setRule(1, 20), x -> x.setRule(2, 1), x -> x.setRule(3, 1),
            x -> x.setCopies(0, 1), x -> x.setTime(0, 0, 99), x -> x.setTime(0, 1, 99), x -> x.setTool(2, 3),
            x -> x.before(3, 0), x -> x.pair(0, 1, true), x -> x.pair(0, 3, false));

    /** The station 0 has a load of 240, which is all that it can bear; each of the settings is too much. */
    private static LineBalancer tight() {
        LineBalancer x = new LineBalancer();
        x.setModels(2);
        x.addTask(60, 50, 99, 1);
        x.addTask(50, 70, 99, 2);
        x.addTask(1, 1, 1, 0);
        x.addTask(0, 0, 0, 0);
        x.setCopies(0, 2);
        return put(x, 0, 0, 0, 1);
    }

    @Says(part = "In doubt", quote = "leave all tasks in their stations, even where they are refused or do not "
            + "fit then")
    static void noSettingMovesATask() {
        for (CallOf setting : SETTINGS) {
            LineBalancer x = tight();
            due(0, x.line(5));
            setting.answer(x);
            due("0 0 0 1", placesOf(x));
            due(true, x.line(5) > 0);
        }
        for (String text : new String[] {"cycle 59", "before 3 0", "apart 0 1", "together 3 0"}) {
            LineBalancer x = tight();
            due(1, read(x, text));
            due("0 0 0 1", placesOf(x));
            due(true, x.line(5) > 0);
        }
    }

    @Says(part = "In doubt", quote = "The reason that whyNot tells stays, also behind a call that is not refused, undo "
            + "and restore.")
    static void theReasonStays() {
        LineBalancer x = withTimes(40, 40, 0);
        x.save();
        x.pair(0, 1, true);
        x.assign(0, 0);
        thrown(SUPPORTED, () -> x.assign(1, 0));
        due(3, x.whyNot());
        List<CallOf> calls = List.of(y -> y.assign(1, 1), y -> y.reason(2, 0), y -> y.drop(0, 1),
                y -> y.reason(1, 0), y -> y.assign(1, -1), y -> y.fill(0), y -> read(y, "put 2 0"),
                y -> read(y, "put"), y -> y.undo(), y -> y.undo(), y -> y.save(), y -> y.restore(), y -> y.restore());
        for (CallOf call : calls) {
            call.answer(x);
            due(3, x.whyNot());
        }
    }

    @Says(part = "In doubt", quote = "Numbers of commands may begin with zeros")
    static void aNumberBeginsWithZeros() {
        LineBalancer x = new LineBalancer();
        due(2, read(x, "task 000 001 099 005;task 00 01 9 0"));
        due("0 1 99 5", x.task(0, 0) + " " + x.task(0, 1) + " " + x.task(0, 2) + " " + x.task(0, 3));
        due("0 1 9 0", x.task(1, 0) + " " + x.task(1, 1) + " " + x.task(1, 2) + " " + x.task(1, 3));
        due(4, read(x, "before 00 001;apart 000 01;put 001 007;cycle 010"));
        due(1, x.task(1, 8));
        due(2, x.task(0, 9));
        due(7, x.task(1, 5));
        due(10, x.rule(0));
        // four digits are too many, whatever they begin with
        due(-109, read(x, "cycle 0010"));
        thrown(SUPPORTED, () -> read(x, "cycle 009"));
    }

    @Says(part = "In doubt", quote = "an empty input has an error at 0")
    static void anEmptyInputIsAnError() {
        LineBalancer x = new LineBalancer();
        due(-100, x.read());
        due(-100, x.read());
        due(1, read(x, "cycle 70"));
        due(-100, x.read());
        due(0, x.undo());
    }
}
