import java.util.List;

/** A test for each sentence of the promises 32 to 34 that names a boundary case. */
public final class UndoBoundaryTests extends Checks {
    public static void main(String[] args) throws Exception {
        runAll(UndoBoundaryTests.class, List.of("Promise 32", "Promise 33", "Promise 34"));
    }

    /** One change of each kind that there is, each of them on the state of ofFourTasks(). */
    private static final List<CallOf> CHANGES = List.of(x -> x.setModels(3), x -> x.setDemand(2, 5),
            x -> x.setRule(0, 99), x -> x.setRule(1, 7), x -> x.setRule(2, 4), x -> x.setRule(3, 1),
            x -> x.setCopies(0, 3), x -> x.setCopies(7, 3), x -> x.addTask(9, 9, 9, 4), x -> x.setTime(0, 0, 11),
            x -> x.setTime(3, 2, 11), x -> x.setTool(3, 5), x -> x.before(0, 2), x -> x.before(2, 3),
            x -> x.pair(1, 2, false), x -> x.pair(0, 3, false), x -> x.drop(1, 0), x -> x.drop(0, 3),
            x -> x.assign(3, 7), x -> x.assign(0, -1), x -> x.fill(0), x -> x.takeLeast(), x -> x.clearLine(),
            x -> read(x, "task 1 1 1 1;before 4 0;together 1 4;apart 4 2;put 4 1;cycle 61"));

    // ---- Promise 32

    @Says(part = "Promise 32", quote = "Undoes the latest change that was not undone.")
    static void eachKindOfChangeIsUndoneAsAWhole() {
        for (CallOf change : CHANGES) {
            LineBalancer x = ofFourTasks();
            String old = answers(x);
            change.answer(x);
            due(false, old.equals(answers(x)));
            due(7, x.undo());
            due(old, answers(x));
        }
    }

    @Says(part = "Promise 32", quote = "the latest change that was not undone")
    static void undoGoesBackStepByStep() {
        LineBalancer x = new LineBalancer();
        x.setRule(0, 61);
        x.setRule(0, 62);
        x.setRule(0, 63);
        due(2, x.undo());
        due(62, x.rule(0));
        due(1, x.undo());
        due(61, x.rule(0));
        // what was undone does not come back, and a change behind it is undone first
        x.setRule(0, 64);
        due(1, x.undo());
        due(61, x.rule(0));
        due(0, x.undo());
        due(60, x.rule(0));
        thrown(STATE, x::undo);
    }

    @Says(part = "Promise 32", quote = "Undoes the latest change")
    static void undoneChangesMakeRoomForOthers() {
        // again and again 8 changes, and as many undone as there are
        LineBalancer x = new LineBalancer();
        for (int round = 0; round < 5; round++) {
            for (int i = 1; i <= 8; i++) {
                x.setRule(0, 100 + i);
            }
            for (int left = 7; left >= 3; left--) {
                due(left, x.undo());
                due(100 + left, x.rule(0));
            }
            x.setRule(0, 200);
            x.setRule(0, 300);
            due(4, x.undo());
            due(200, x.rule(0));
            due(3, x.undo());
            due(103, x.rule(0));
            due(2, x.undo());
            due(1, x.undo());
            due(101, x.rule(0));
            due(0, x.undo());
            due(60, x.rule(0));
            thrown(STATE, x::undo);
            due(60, x.rule(0));
        }
    }

    @Says(part = "Promise 32", quote = "The input and the reason stay.")
    static void undoLeavesTheInputAndTheReason() {
        LineBalancer x = withTasks(2, 60);
        feed(x, "put 1");
        thrown(ELEMENT, x::whyNot);
        x.assign(0, 0);
        thrown(SUPPORTED, () -> x.assign(1, 0));
        feed(x, " 0");
        due(2, x.undo());
        due(6, x.whyNot());
        due(8, x.feed('0'));
        due(1, x.read());
        due("-1 0", placesOf(x));
        // the input of a read that is undone does not come back
        due(2, x.undo());
        due("-1 -1", placesOf(x));
        due(-100, x.read());
        for (int left = 1; left >= 0; left--) {
            due(left, x.undo());
        }
        due(6, x.whyNot());
    }

    @Says(part = "Promise 32", quote = "Returns the number of changes that can still be undone.")
    static void undoReturns7DownTo0() {
        for (int changes = 1; changes <= 20; changes++) {
            LineBalancer x = new LineBalancer();
            for (int i = 0; i < changes; i++) {
                x.setDemand(i % 3, 1 + i % 9);
            }
            for (int left = Math.min(8, changes) - 1; left >= 0; left--) {
                due(left, x.undo());
            }
        }
    }

    @Says(part = "Promise 32", quote = "Throws IllegalStateException if there is none")
    static void withoutAChangeThereIsNothingToUndo() {
        thrown(STATE, () -> new LineBalancer().undo());
        LineBalancer x = new LineBalancer();
        thrown(ARGUMENT, () -> x.setModels(0));
        x.save();
        x.feed('c');
        x.read();
        thrown(STATE, x::undo);
        x.setModels(1);
        due(0, x.undo());
        thrown(STATE, x::undo);
        thrown(STATE, x::undo);
        for (int i = 0; i < 9; i++) {
            x.setModels(2);
        }
        for (int i = 0; i < 8; i++) {
            x.undo();
        }
        thrown(STATE, x::undo);
        due(2, x.rule(4));
        x.setModels(3);
        x.restore();
        thrown(STATE, x::undo);
    }

    // ---- Promise 33

    @Says(part = "Promise 33", quote = "Saves models, rules, stations and tasks")
    static void whateverChangesIsSaved() {
        for (CallOf change : CHANGES) {
            LineBalancer x = ofFourTasks();
            change.answer(x);
            String saved = answers(x);
            x.save();
            x.clearLine();
            x.setModels(1);
            x.setRule(0, 998);
            x.setTool(0, 4);
            x.restore();
            due(saved, answers(x));
        }
    }

    @Says(part = "Promise 33", quote = "in place of what was saved before")
    static void onlyTheLastStateIsSaved() {
        LineBalancer x = withTasks(12, 1);
        x.before(11, 0);
        due(12, x.save());
        for (int i = 0; i < 8; i++) {
            x.undo();
        }
        due(5, x.save());
        x.addTask(2, 2, 2, 2);
        due(5, x.restore());
        due(5, x.size());
        thrown(INDEX, () -> x.task(5, 0));
        // nothing of the tasks that were saved before comes back
        for (int task = 5; task < 12; task++) {
            due(task, x.addTask(0, 0, 0, 0));
        }
        due(0, x.task(0, 6) | x.task(11, 7));
    }

    @Says(part = "Promise 33", quote = "Returns the number of tasks.")
    static void saveReturns0To12() {
        LineBalancer x = new LineBalancer();
        for (int count = 0; count < 12; count++) {
            due(count, x.save());
            x.addTask(0, 0, 0, 0);
        }
        due(12, x.save());
    }

    @Says(part = "Promise 33", quote = "Saves")
    static void saveIsNoChangeAndNoChangeIsLost() {
        LineBalancer x = new LineBalancer();
        for (int i = 1; i <= 9; i++) {
            x.setRule(0, 100 + i);
            x.save();
        }
        for (int left = 7; left >= 0; left--) {
            due(left, x.undo());
            x.save();
        }
        thrown(STATE, x::undo);
        due(101, x.rule(0));
    }

    // ---- Promise 34

    @Says(part = "Promise 34", quote = "Restores what was saved last, which stays saved.")
    static void whatWasSavedIsRestoredAgainAndAgain() {
        LineBalancer x = ofFourTasks();
        x.save();
        String saved = answers(x);
        due(4, x.restore());
        due(saved, answers(x));
        for (CallOf change : CHANGES.subList(0, 11)) {
            change.answer(x);
            due(4, x.restore());
            due("1 1 4 -1", placesOf(x));
        }
        due(saved, answers(x));
    }

    @Says(part = "Promise 34", quote = "Restores what was saved last")
    static void everyChangeIsLostByRestore() {
        for (CallOf change : CHANGES) {
            LineBalancer x = ofFourTasks();
            x.save();
            String saved = answers(x);
            change.answer(x);
            due(4, x.restore());
            due(saved, answers(x));
        }
    }

    @Says(part = "Promise 34", quote = "Nothing can be undone then")
    static void restoreForgetsAllChanges() {
        LineBalancer x = withTasks(9, 1);
        x.save();
        x.clearLine();
        x.restore();
        thrown(STATE, x::undo);
        due(9, x.size());
        for (int i = 1; i <= 3; i++) {
            x.setRule(0, 100 + i);
        }
        for (int left = 2; left >= 0; left--) {
            due(left, x.undo());
        }
        due(60, x.rule(0));
        thrown(STATE, x::undo);
        // a restore that is refused forgets nothing
        LineBalancer y = withTasks(2, 1);
        thrown(STATE, y::restore);
        due(1, y.undo());
    }

    @Says(part = "Promise 34", quote = "the input and the reason stay")
    static void restoreLeavesTheInputAndTheReason() {
        LineBalancer x = withTasks(2, 60);
        x.save();
        x.assign(0, 0);
        thrown(SUPPORTED, () -> x.assign(1, 0));
        feed(x, "put 1 ");
        x.restore();
        due(6, x.whyNot());
        due(7, x.feed('0'));
        due(1, x.read());
        due("-1 0", placesOf(x));
        x.restore();
        due(6, x.whyNot());
        due(-100, x.read());
    }

    @Says(part = "Promise 34", quote = "Returns the number of tasks.")
    static void restoreReturns0To12() {
        for (int count = 0; count <= 12; count++) {
            LineBalancer x = withTasks(count, 1);
            x.save();
            if (count > 0) {
                x.undo();
            } else {
                x.addTask(1, 1, 1, 1);
            }
            due(count, x.restore());
            due(count, x.size());
        }
    }

    @Says(part = "Promise 34", quote = "Throws IllegalStateException if nothing was saved")
    static void withoutASaveThereIsNothingToRestore() {
        LineBalancer x = withTasks(3, 1);
        thrown(STATE, x::restore);
        due(3, x.size());
        due(2, x.undo());
        thrown(STATE, x::restore);
        // to have saved no tasks is to have saved
        LineBalancer y = new LineBalancer();
        y.save();
        y.addTask(1, 1, 1, 1);
        due(0, y.restore());
        due(0, y.restore());
    }
}
