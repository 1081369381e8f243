/** At least one test for each promise of the document, by its number: ordinary, edge and wrong inputs. */
public final class PromiseTests extends Checks {
    private static final int[] WILD = {Integer.MIN_VALUE, -2, 100000, Integer.MAX_VALUE};

    public static void main(String[] args) {
        newObject();
        models();
        rules();
        copies();
        addTask();
        setTimeAndTool();
        before();
        pair();
        drop();
        task();
        priority();
        size();
        assign();
        reason();
        reasonOfToolsAndFit();
        whyNot();
        station();
        time();
        sequence();
        line();
        lineOfRefusedTasks();
        efficiency();
        unevenness();
        clearLine();
        fill();
        fillRefused();
        least();
        ways();
        waysWithRules();
        takeLeast();
        feed();
        readErrors();
        readCommands();
        readCommandsBehindLongerInput();
        readRefused();
        undo();
        undoOfEachChange();
        save();
        restore();
        wildArguments();
        finish("PromiseTests");
    }

    // ---- the promises

    private static void newObject() {
        about("promise 1");
        LineBalancer x = new LineBalancer();
        due(0, x.size());
        int[] rules = {60, 2, 5, 0, 1, 1, 1, 1, 1};
        for (int what = 0; what <= 8; what++) {
            due(rules[what], x.rule(what));
        }
        for (int s = 0; s < 8; s++) {
            due(1, x.station(s, 1));
            due(0, x.station(s, 0));
            due(60, x.station(s, 5));
        }
        thrown(ELEMENT, x::whyNot);
        thrown(STATE, x::undo);
        thrown(STATE, x::restore);
        due(1, x.feed('a'));
    }

    private static void models() {
        about("promise 2");
        LineBalancer x = new LineBalancer();
        due(1, x.setModels(3));
        due(3, x.setModels(2));
        due(2, x.rule(4));
        due(2, x.setModels(1));
        for (int count : new int[] {0, 4, -1}) {
            thrown(ARGUMENT, () -> x.setModels(count));
        }
        due(1, x.rule(4));

        about("promise 3");
        due(1, x.setDemand(0, 9));
        due(1, x.setDemand(2, 4));
        due(4, x.setDemand(2, 5));
        due(9, x.rule(5));
        x.setModels(3);
        due(15, x.rule(5));
        thrown(INDEX, () -> x.setDemand(3, 1));
        thrown(INDEX, () -> x.setDemand(-1, 0));
        thrown(ARGUMENT, () -> x.setDemand(1, 0));
        thrown(ARGUMENT, () -> x.setDemand(1, 10));
        due(1, x.rule(7));
    }

    private static void rules() {
        about("promise 4");
        LineBalancer x = new LineBalancer();
        int[] at = {60, 2, 5, 0};
        int[] low = {10, 0, 1, 0};
        int[] high = {999, 20, 5, 1};
        for (int i = 0; i < 4; i++) {
            int r = i;
            due(at[r], x.setRule(r, low[r]));
            due(low[r], x.setRule(r, high[r]));
            thrown(ARGUMENT, () -> x.setRule(r, low[r] - 1));
            thrown(ARGUMENT, () -> x.setRule(r, high[r] + 1));
            due(high[r], x.rule(r));
        }
        thrown(ARGUMENT, () -> x.setRule(-1, 10));
        thrown(ARGUMENT, () -> x.setRule(4, 1));

        about("promise 5");
        LineBalancer y = new LineBalancer();
        y.setModels(2);
        y.setDemand(0, 2);
        y.setDemand(1, 3);
        y.setDemand(2, 4);
        due(2, y.rule(4));
        due(5, y.rule(5));
        due(2, y.rule(6));
        due(3, y.rule(7));
        due(4, y.rule(8));
        thrown(ARGUMENT, () -> y.rule(-1));
        thrown(ARGUMENT, () -> y.rule(9));
    }

    private static void copies() {
        about("promise 6");
        LineBalancer x = new LineBalancer();
        due(1, x.setCopies(7, 3));
        due(3, x.setCopies(7, 1));
        due(1, x.setCopies(0, 2));
        due(2, x.station(0, 1));
        due(1, x.station(7, 1));
        thrown(INDEX, () -> x.setCopies(8, 9));
        thrown(INDEX, () -> x.setCopies(-1, 1));
        thrown(ARGUMENT, () -> x.setCopies(0, 0));
        thrown(ARGUMENT, () -> x.setCopies(0, 4));
        due(2, x.station(0, 1));
    }

    private static void addTask() {
        about("promise 7");
        LineBalancer x = new LineBalancer();
        due(0, x.addTask(0, 50, 99, 5));
        due(0, x.task(0, 0));
        due(50, x.task(0, 1));
        due(99, x.task(0, 2));
        due(5, x.task(0, 3));
        due(-1, x.task(0, 5));
        int[][] bad = {{100, 0, 0, 0}, {0, 100, 0, 0}, {0, 0, 100, 0}, {0, 0, 0, 6},
            {-1, 0, 0, 0}, {0, -1, 0, 0}, {0, 0, -1, 0}, {0, 0, 0, -1}};
        for (int[] v : bad) {
            thrown(ARGUMENT, () -> x.addTask(v[0], v[1], v[2], v[3]));
        }
        for (int i = 1; i < 12; i++) {
            due(i, x.addTask(1, 1, 1, 1));
        }
        thrown(STATE, () -> x.addTask(1, 1, 1, 1));
        thrown(ARGUMENT, () -> x.addTask(100, 1, 1, 1));
        due(12, x.size());
        // a task that was undone leaves nothing to the next one of its number
        LineBalancer y = withTasks(2, 5);
        y.before(0, 1);
        y.pair(0, 1, true);
        y.assign(1, 4);
        for (int i = 0; i < 4; i++) {
            y.undo();
        }
        due(1, y.addTask(7, 0, 0, 0));
        due(-1, y.task(1, 5));
        due(0, y.task(1, 6) + y.task(1, 8) + y.task(1, 9));
    }

    private static void setTimeAndTool() {
        about("promise 8");
        LineBalancer x = withTasks(2, 30);
        x.assign(1, 2);
        due(30, x.setTime(1, 0, 99));
        due(99, x.task(1, 0));
        due(2, x.task(1, 5));
        due(0, x.station(2, 3));
        due(0, x.setTime(1, 2, 8));
        due(8, x.task(1, 2));
        thrown(INDEX, () -> x.setTime(2, 0, 1));
        thrown(INDEX, () -> x.setTime(-1, 0, 1));
        thrown(INDEX, () -> x.setTime(0, 3, 100));
        thrown(INDEX, () -> x.setTime(0, -1, 1));
        thrown(ARGUMENT, () -> x.setTime(0, 0, 100));
        thrown(ARGUMENT, () -> x.setTime(0, 0, -1));
        due(30, x.task(0, 0));

        about("promise 9");
        due(0, x.setTool(1, 5));
        due(5, x.setTool(1, 3));
        due(3, x.task(1, 3));
        due(2, x.task(1, 5));
        thrown(INDEX, () -> x.setTool(2, 9));
        thrown(INDEX, () -> x.setTool(-1, 0));
        thrown(ARGUMENT, () -> x.setTool(1, 6));
        thrown(ARGUMENT, () -> x.setTool(1, -1));
    }

    private static void before() {
        about("promise 10");
        LineBalancer x = withTasks(5, 1);
        due(1, x.before(3, 1));
        due(2, x.before(1, 2));
        due(3, x.before(2, 4));
        due(3, x.before(3, 4));
        thrown(ARGUMENT, () -> x.before(3, 1));
        thrown(ARGUMENT, () -> x.before(0, 0));
        thrown(SUPPORTED, () -> x.before(1, 3));
        thrown(SUPPORTED, () -> x.before(4, 3));
        thrown(SUPPORTED, () -> x.before(2, 3));
        thrown(INDEX, () -> x.before(5, 5));
        thrown(INDEX, () -> x.before(0, 5));
        thrown(INDEX, () -> x.before(-1, 0));
        due(14, x.task(4, 6));
        LineBalancer z = withTasks(12, 1);
        due(1, z.before(11, 0));
        due(2, z.before(0, 5));
        due(33, z.task(11, 7));
        due(2049, z.task(5, 6));
        // tasks stay in their stations even where they are refused then
        LineBalancer y = withTasks(2, 1);
        y.assign(0, 3);
        y.assign(1, 1);
        due(1, y.before(0, 1));
        due(3, y.task(0, 5));
        due(1, y.task(1, 5));
        due(2, y.line(5));
    }

    private static void pair() {
        about("promise 11");
        LineBalancer x = withTasks(4, 1);
        x.assign(0, 2);
        x.assign(1, 2);
        due(0, x.pair(0, 1, true));
        due(2, x.task(1, 5));
        due(1, x.pair(1, 0, false));
        due(2, x.pair(0, 1, false));
        due(2, x.pair(0, 1, true));
        due(1, x.pair(1, 0, true));
        due(2, x.task(0, 9));
        due(0, x.task(0, 10));
        due(1, x.task(1, 9));
        // several pairs of one task, and each of them from both sides
        due(0, x.pair(2, 0, true));
        due(0, x.pair(0, 3, true));
        due(14, x.task(0, 9));
        due(0, x.pair(2, 1, false));
        due(0, x.pair(3, 1, false));
        due(12, x.task(1, 10));
        due(2, x.task(2, 10));
        due(2, x.pair(3, 1, true));
        due(2, x.pair(1, 2, true));
        due(0, x.task(1, 10) + x.task(2, 10) + x.task(3, 10));
        due(13, x.task(1, 9));
        due(3, x.task(3, 9));
        thrown(INDEX, () -> x.pair(0, 4, true));
        thrown(INDEX, () -> x.pair(4, 4, true));
        thrown(INDEX, () -> x.pair(-1, 0, true));
        thrown(ARGUMENT, () -> x.pair(2, 2, false));
    }

    private static void drop() {
        about("promise 12");
        LineBalancer x = withTasks(4, 1);
        x.before(0, 1);
        x.before(1, 2);
        x.before(0, 2);
        x.pair(0, 1, true);
        x.pair(2, 3, false);
        due(3, x.drop(1, 0));
        due(0, x.task(0, 9));
        due(0, x.task(1, 9));
        due(0, x.task(1, 6));
        due(3, x.task(2, 6));
        due(2, x.drop(3, 2));
        due(0, x.task(2, 10));
        due(0, x.task(3, 10));
        x.pair(2, 3, false);
        due(2, x.drop(2, 3));
        due(0, x.task(2, 10));
        due(0, x.task(3, 10));
        due(1, x.drop(2, 1));
        due(1, x.task(2, 6));
        thrown(ELEMENT, () -> x.drop(0, 1));
        thrown(ELEMENT, () -> x.drop(3, 3));
        thrown(INDEX, () -> x.drop(0, 4));
        thrown(INDEX, () -> x.drop(-1, 4));
        // a chain alone is nothing to be dropped
        LineBalancer y = withTasks(3, 1);
        y.before(0, 1);
        y.before(1, 2);
        thrown(ELEMENT, () -> y.drop(0, 2));
        due(1, y.drop(0, 1));
        due(2, y.task(2, 6));
        due(0, y.task(0, 7));
    }

    private static void task() {
        about("promise 13");
        LineBalancer x = new LineBalancer();
        x.addTask(10, 20, 30, 4);
        x.addTask(1, 1, 1, 0);
        x.addTask(1, 1, 1, 0);
        x.setModels(2);
        x.setDemand(0, 2);
        x.setDemand(1, 3);
        x.setDemand(2, 9);
        due(80, x.task(0, 4));
        x.before(0, 1);
        x.before(1, 2);
        due(3, x.task(2, 6));
        due(6, x.task(0, 7));
        due(2, x.task(2, 8));
        x.pair(0, 2, true);
        x.pair(1, 2, false);
        due(4, x.task(0, 9));
        due(1, x.task(2, 9));
        due(4, x.task(1, 10));
        due(2, x.task(2, 10));
        due(0, x.task(0, 11));
        x.assign(0, 3);
        due(3, x.task(0, 5));
        due(3, x.task(1, 11));
        due(4, x.task(2, 11));
        x.setTime(1, 0, 99);
        x.setRule(0, 10);
        due(-1, x.task(1, 11));
        thrown(INDEX, () -> x.task(3, 12));
        thrown(INDEX, () -> x.task(-1, 0));
        thrown(ARGUMENT, () -> x.task(0, 12));
        thrown(ARGUMENT, () -> x.task(0, -1));
    }

    private static void priority() {
        about("promise 14");
        LineBalancer x = new LineBalancer();
        x.addTask(10, 1, 0, 0);
        x.addTask(20, 2, 0, 0);
        x.addTask(30, 3, 0, 0);
        x.addTask(40, 4, 0, 0);
        x.before(0, 1);
        x.before(1, 2);
        x.before(0, 3);
        x.before(3, 2);
        due(100, x.priority(0, 0));
        due(50, x.priority(1, 0));
        due(10, x.priority(0, 1));
        due(3, x.priority(0, 2));
        due(0, x.priority(2, 2));
        due(0, x.priority(0, 3));
        x.setModels(2);
        x.setDemand(1, 5);
        due(150, x.priority(0, 0));
        due(15, x.priority(0, 1));
        thrown(INDEX, () -> x.priority(4, 4));
        thrown(INDEX, () -> x.priority(-1, 0));
        thrown(ARGUMENT, () -> x.priority(0, 4));
        thrown(ARGUMENT, () -> x.priority(0, -1));
    }

    private static void size() {
        about("promise 15");
        LineBalancer x = new LineBalancer();
        for (int i = 0; i < 12; i++) {
            due(i, x.size());
            x.addTask(0, 0, 0, 0);
        }
        due(12, x.size());
        x.undo();
        due(11, x.size());
    }

    private static void assign() {
        about("promise 16");
        LineBalancer x = withTasks(2, 40);
        due(-1, x.assign(0, 7));
        due(7, x.assign(0, 0));
        due(0, x.assign(0, 0));
        thrown(SUPPORTED, () -> x.assign(1, 0));
        due(6, x.whyNot());
        due(-1, x.task(1, 5));
        due(-1, x.assign(1, 1));
        due(1, x.assign(1, -1));
        due(-1, x.assign(1, -1));
        thrown(INDEX, () -> x.assign(2, 0));
        thrown(INDEX, () -> x.assign(-1, 0));
        thrown(INDEX, () -> x.assign(0, 8));
        thrown(INDEX, () -> x.assign(0, -2));
        due(0, x.task(0, 5));
        // a task that its own station refuses may leave it, not be put there again
        x.setTime(0, 0, 61);
        thrown(SUPPORTED, () -> x.assign(0, 0));
        due(0, x.assign(0, -1));
    }

    private static void reason() {
        about("promise 17");
        LineBalancer x = withTasks(5, 5);
        x.before(0, 1);
        x.before(1, 2);
        x.assign(0, 4);
        due(1, x.reason(2, 3));
        due(0, x.reason(2, 4));
        due(0, x.reason(2, 5));
        x.assign(2, 6);
        due(1, x.reason(1, 3));
        due(0, x.reason(1, 5));
        due(2, x.reason(1, 7));
        due(2, x.reason(0, 7));
        x.pair(3, 0, true);
        due(3, x.reason(3, 4));
        due(0, x.reason(3, 5));
        x.pair(4, 0, false);
        due(0, x.reason(4, 4));
        due(4, x.reason(4, 5));
        due(4, x.reason(4, 3));
        x.assign(0, -1);
        due(0, x.reason(4, 5));
        // the least and the greatest station
        LineBalancer y = withTasks(2, 5);
        y.before(0, 1);
        y.assign(1, 0);
        due(2, y.reason(0, 1));
        due(0, y.reason(0, 0));
        y.assign(1, -1);
        y.assign(0, 7);
        due(1, y.reason(1, 6));
        due(0, y.reason(1, 7));
        // the first of several
        x.assign(0, 4);
        x.pair(0, 1, true);
        x.pair(1, 2, false);
        due(1, x.reason(1, 0));
        due(2, x.reason(1, 7));
        due(3, x.reason(1, 4));
        due(4, x.reason(1, 5));
        due(0, x.reason(1, 6));
        thrown(INDEX, () -> x.reason(5, 0));
        thrown(INDEX, () -> x.reason(-1, 0));
        thrown(INDEX, () -> x.reason(0, 8));
        thrown(INDEX, () -> x.reason(0, -1));
        thrown(ELEMENT, x::whyNot);
    }

    private static void reasonOfToolsAndFit() {
        about("promise 17");
        LineBalancer x = new LineBalancer();
        x.addTask(30, 0, 0, 1);
        x.addTask(29, 0, 0, 2);
        x.addTask(0, 0, 0, 3);
        x.addTask(0, 0, 0, 0);
        x.setRule(2, 2);
        x.assign(0, 0);
        due(6, x.reason(1, 0));
        x.setRule(1, 0);
        due(0, x.reason(1, 0));
        x.assign(1, 0);
        // a tool counts for the limit even without a time
        due(5, x.reason(2, 0));
        due(0, x.reason(3, 0));
        x.setRule(0, 30);
        due(5, x.reason(2, 0));
        due(6, x.reason(3, 0));
        x.setCopies(0, 2);
        due(0, x.reason(3, 0));
        // on average a long model is balanced by a short one, strictly not
        LineBalancer y = new LineBalancer();
        y.addTask(90, 20, 99, 0);
        y.setModels(2);
        due(0, y.reason(0, 0));
        y.setRule(3, 1);
        due(6, y.reason(0, 0));
        y.setCopies(0, 2);
        due(0, y.reason(0, 0));
        y.setRule(3, 0);
        y.setCopies(0, 1);
        y.setDemand(0, 2);
        due(6, y.reason(0, 0));
        y.setTime(0, 0, 80);
        due(0, y.reason(0, 0));
        y.setTime(0, 1, 21);
        due(6, y.reason(0, 0));
    }

    private static void whyNot() {
        about("promise 18");
        LineBalancer x = withTasks(3, 40);
        thrown(ELEMENT, x::whyNot);
        x.assign(0, 0);
        thrown(SUPPORTED, () -> x.assign(1, 0));
        due(6, x.whyNot());
        x.before(0, 1);
        x.assign(0, 5);
        thrown(SUPPORTED, () -> x.assign(1, 0));
        due(1, x.whyNot());
        due(0, x.reason(0, 7));
        // it stays behind calls that are not refused, undo and restore
        x.assign(2, 0);
        x.save();
        x.undo();
        x.restore();
        x.fill(0);
        due(1, x.whyNot());
        due(1, x.whyNot());
    }

    private static void station() {
        about("promise 19");
        LineBalancer x = new LineBalancer();
        x.addTask(10, 20, 0, 1);
        x.addTask(10, 0, 0, 2);
        x.addTask(10, 5, 0, 5);
        x.addTask(10, 5, 0, 0);
        x.setModels(2);
        x.setDemand(0, 2);
        x.setDemand(1, 3);
        for (int t = 0; t < 4; t++) {
            x.assign(t, 1);
        }
        due(15, x.station(1, 0));
        due(1, x.station(1, 1));
        due(2 * (40 + 6) + 3 * (30 + 4), x.station(1, 2));
        due(1, x.station(1, 3));
        due(2 + 4 + 32, x.station(1, 4));
        due(300 - 194, x.station(1, 5));
        x.setRule(0, 38);
        due(0, x.station(1, 3));
        due(-4, x.station(1, 5));
        x.setCopies(1, 3);
        due(1, x.station(1, 3));
        due(376, x.station(1, 5));
        x.setCopies(1, 1);
        x.setRule(0, 45);
        due(1, x.station(1, 3));
        x.setRule(3, 1);
        due(0, x.station(1, 3));
        x.setRule(0, 46);
        due(1, x.station(1, 3));
        due(0, x.station(0, 0));
        due(0, x.station(0, 4));
        due(1, x.station(0, 3));
        thrown(INDEX, () -> x.station(8, 6));
        thrown(INDEX, () -> x.station(-1, 0));
        thrown(ARGUMENT, () -> x.station(0, 6));
        thrown(ARGUMENT, () -> x.station(0, -1));
    }

    private static void time() {
        about("promise 20");
        LineBalancer x = new LineBalancer();
        x.setRule(0, 999);
        x.addTask(1, 1, 1, 1);
        x.addTask(1, 0, 1, 2);
        x.addTask(1, 1, 1, 1);
        x.addTask(1, 1, 1, 0);
        x.addTask(1, 1, 0, 3);
        x.setModels(3);
        due(0, x.time(0, 0, true));
        x.assign(0, 0);
        due(0, x.time(0, 0, true));
        due(1, x.time(0, 0, false));
        x.assign(1, 0);
        due(2, x.time(0, 0, true));
        due(0, x.time(0, 1, true));
        x.assign(2, 0);
        due(2, x.time(0, 0, true));
        x.assign(3, 0);
        x.assign(4, 0);
        // 1 2 1 3, then 1 1 3, then 1 2 1: each around
        due(4, x.time(0, 0, true));
        due(2, x.time(0, 1, true));
        due(2, x.time(0, 2, true));
        x.setRule(1, 7);
        due(5 + 28, x.time(0, 0, false));
        due(4 + 14, x.time(0, 1, false));
        due(4 + 14, x.time(0, 2, false));
        // the changes are those of the sequence: 0 2 1 4
        x.before(2, 1);
        due(3, x.time(0, 0, true));
        x.setModels(2);
        thrown(INDEX, () -> x.time(0, 2, true));
        thrown(INDEX, () -> x.time(0, -1, false));
        thrown(INDEX, () -> x.time(8, 0, false));
        thrown(INDEX, () -> x.time(-1, 0, false));
    }

    private static void sequence() {
        about("promise 21");
        LineBalancer x = withTasks(6, 1);
        x.before(4, 0);
        x.before(5, 3);
        x.before(3, 1);
        for (int t : new int[] {0, 1, 2, 4, 5}) {
            x.assign(t, 6);
        }
        // 5 is before 1 by a chain through 3, which is elsewhere
        int[] order = {2, 4, 0, 5, 1};
        for (int place = 0; place < 5; place++) {
            due(order[place], x.sequence(6, place));
        }
        LineBalancer full = withTasks(12, 1);
        for (int t = 0; t < 12; t++) {
            full.assign(t, 0);
        }
        full.before(11, 3);
        int[] all = {0, 1, 2, 4, 5, 6, 7, 8, 9, 10, 11, 3};
        for (int place = 0; place < 12; place++) {
            due(all[place], full.sequence(0, place));
        }
        thrown(ELEMENT, () -> full.sequence(0, 12));
        thrown(ELEMENT, () -> x.sequence(6, 5));
        thrown(ELEMENT, () -> x.sequence(6, -1));
        thrown(ELEMENT, () -> x.sequence(0, 0));
        thrown(INDEX, () -> x.sequence(8, 0));
        thrown(INDEX, () -> x.sequence(-1, 0));
    }

    private static void line() {
        about("promise 22");
        LineBalancer x = withTasks(5, 30);
        for (int what = 0; what < 7; what++) {
            due(0, x.line(what));
        }
        due(3, x.line(7));
        x.setRule(0, 75);
        due(2, x.line(7));
        x.setRule(0, 74);
        due(3, x.line(7));
        x.setRule(0, 149);
        due(2, x.line(7));
        x.setRule(0, 151);
        due(1, x.line(7));
        x.setRule(0, 60);
        x.setCopies(2, 2);
        x.setCopies(5, 3);
        x.assign(0, 0);
        due(30, x.line(4));
        x.assign(0, 2);
        x.assign(1, 2);
        x.assign(2, 5);
        x.assign(3, 5);
        due(2, x.line(0));
        due(5, x.line(1));
        due(4, x.line(2));
        due(2, x.line(3));
        due(120, x.line(4));
        // 60 by 2 copies is the same as 30 by one: the lowest station
        x.assign(4, 1);
        due(1, x.line(3));
        x.assign(4, 6);
        due(2, x.line(3));
        x.setTime(4, 0, 31);
        due(6, x.line(3));
        // an exact fraction: 62 by 3 is more than 20
        x.setTime(2, 0, 32);
        x.setTime(4, 0, 20);
        x.setTime(0, 0, 0);
        due(5, x.line(3));
        thrown(ARGUMENT, () -> x.line(8));
        thrown(ARGUMENT, () -> x.line(-1));
    }

    private static void lineOfRefusedTasks() {
        about("promise 22");
        LineBalancer x = withTasks(4, 30);
        x.assign(0, 0);
        x.assign(1, 0);
        x.assign(2, 1);
        x.assign(3, 3);
        due(0, x.line(5));
        due(0, x.line(6));
        x.setTime(0, 0, 31);
        due(2, x.line(5));
        due(1, x.line(6));
        x.before(3, 2);
        due(4, x.line(5));
        due(1, x.line(6));
        x.setRule(0, 29);
        due(3, x.line(6));
        x.setDemand(0, 4);
        due(3, x.line(6));
        x.assign(3, -1);
        due(3, x.line(5));
        due(2, x.line(6));
    }

    private static void efficiency() {
        about("promise 23");
        LineBalancer x = withTasks(3, 25);
        thrown(ARITHMETIC, x::efficiency);
        x.assign(0, 0);
        x.assign(1, 3);
        x.setCopies(3, 2);
        due(50f / 180f, x.efficiency());
        // without the tool changes, by the total demand
        x.setTool(0, 1);
        x.setModels(2);
        x.setDemand(0, 2);
        x.setDemand(1, 4);
        due(100f / (3f * 60f * 6f), x.efficiency());
        x.setTime(0, 0, 0);
        x.setTime(1, 0, 0);
        due(0f, x.efficiency());
        x.clearLine();
        thrown(ARITHMETIC, x::efficiency);
    }

    private static void unevenness() {
        about("promise 24");
        LineBalancer x = withTasks(3, 25);
        due(0, x.unevenness());
        x.assign(0, 0);
        due(35 * 35, x.unevenness());
        x.assign(1, 1);
        x.assign(2, 1);
        due(35 * 35 + 10 * 10, x.unevenness());
        x.setTime(1, 0, 99);
        due(35 * 35 + 64 * 64, x.unevenness());
        LineBalancer y = withTasks(1, 0);
        y.setModels(3);
        for (int m = 0; m < 3; m++) {
            y.setDemand(m, 9);
        }
        y.setRule(0, 999);
        y.setCopies(0, 3);
        y.assign(0, 0);
        due(80919L * 80919L, y.unevenness());
    }

    private static void clearLine() {
        about("promise 25");
        LineBalancer x = withTasks(3, 25);
        due(0, x.clearLine());
        x.assign(0, 0);
        x.assign(2, 7);
        due(2, x.clearLine());
        due(-1, x.task(0, 5));
        due(-1, x.task(2, 5));
        due(0, x.clearLine());
        due(3, x.size());
    }

    private static void fill() {
        about("promise 26");
        LineBalancer x = new LineBalancer();
        int[] times = {10, 50, 20, 40, 30, 20};
        for (int t : times) {
            x.addTask(t, 0, 0, 0);
        }
        x.before(4, 0);
        x.before(5, 1);
        x.assign(0, 7);
        // 5 (70), 1 (50), 3, 4 (40; 3 is the lowest of both), 2, 0
        due(3, x.fill(0));
        due("2 1 2 0 2 0", placesOf(x));
        // 3 (40), 4, 2, 5, 1, 0
        due(3, x.fill(1));
        due("1 2 0 0 1 1", placesOf(x));
        // 4 and 5 have a follower, then 0, 1, 2, 3
        due(3, x.fill(2));
        due("0 1 2 2 0 0", placesOf(x));
        // the number alone: 2, 3, 4, 0, 5, 1
        due(3, x.fill(3));
        due("1 2 0 0 1 1", placesOf(x));
        thrown(ARGUMENT, () -> x.fill(4));
        thrown(ARGUMENT, () -> x.fill(-1));
        due(0, new LineBalancer().fill(0));
    }

    private static void fillRefused() {
        about("promise 26");
        LineBalancer x = withTasks(3, 40);
        x.assign(0, 2);
        x.assign(1, 1);
        x.setTime(2, 0, 70);
        thrown(SUPPORTED, () -> x.fill(0));
        due(6, x.whyNot());
        due("2 1 -1", placesOf(x));
        // only the copies of the station 7 are enough, and it refuses for another reason
        x.setCopies(7, 2);
        due(3, x.fill(0));
        due(7, x.task(2, 5));
        x.before(2, 0);
        x.pair(2, 0, true);
        thrown(SUPPORTED, () -> x.fill(0));
        due(3, x.whyNot());
        due("0 1 7", placesOf(x));
        // what is refused is no change
        LineBalancer y = withTasks(1, 70);
        thrown(SUPPORTED, () -> y.fill(0));
        due(0, y.undo());
        thrown(STATE, y::undo);
    }

    private static void least() {
        about("promise 27");
        due(0, new LineBalancer().least());
        LineBalancer x = withTasks(8, 30);
        due(4, x.least());
        x.setCopies(3, 2);
        due(4, x.least());
        x.setCopies(0, 2);
        due(3, x.least());
        x.pair(0, 1, true);
        due(3, x.least());
        x.setTime(0, 0, 61);
        due(4, x.least());
        x.setTime(0, 0, 99);
        x.setTime(1, 0, 99);
        due(5, x.least());
        x.setTime(2, 0, 99);
        thrown(ELEMENT, x::least);
        LineBalancer y = withTasks(8, 60);
        due(8, y.least());
        y.addTask(0, 0, 0, 0);
        thrown(STATE, y::least);
        y.setTime(0, 0, 99);
        thrown(STATE, y::least);
    }

    private static void ways() {
        about("promise 28");
        LineBalancer none = new LineBalancer();
        due(1, none.ways(0));
        due(1, none.ways(8));
        LineBalancer x = withTasks(8, 0);
        due(0, x.ways(0));
        due(1, x.ways(1));
        due(256, x.ways(2));
        due(16777216, x.ways(8));
        x.addTask(0, 0, 0, 0);
        thrown(STATE, () -> x.ways(0));
        thrown(ARGUMENT, () -> x.ways(9));
        thrown(ARGUMENT, () -> x.ways(-1));
        // a chain of 8 in 8 stations: the ways not to go down
        LineBalancer chain = withTasks(8, 0);
        for (int t = 7; t > 0; t--) {
            chain.before(t, t - 1);
        }
        due(6435, chain.ways(8));
        // all apart
        LineBalancer apart = withTasks(4, 0);
        for (int t = 0; t < 4; t++) {
            for (int o = t + 1; o < 4; o++) {
                apart.pair(t, o, true);
            }
        }
        due(8 * 7 * 6 * 5, apart.ways(8));
        due(0, apart.ways(3));
        apart.pair(0, 1, false);
        due(6, apart.ways(3));
    }

    private static void waysWithRules() {
        about("promise 28");
        // one task that only fits into stations with two copies
        LineBalancer x = withTasks(1, 90);
        due(0, x.ways(8));
        x.setCopies(2, 2);
        x.setCopies(5, 3);
        due(2, x.ways(8));
        due(1, x.ways(3));
        due(0, x.ways(2));
        // two tools in a station: not beyond the limit
        LineBalancer y = withTasks(3, 0);
        y.setTool(0, 1);
        y.setTool(1, 2);
        y.setTool(2, 3);
        y.setRule(2, 2);
        due(27 - 3, y.ways(3));
        y.setRule(2, 1);
        due(6, y.ways(3));
        // the changes count for the load
        LineBalancer z = withTasks(2, 30);
        z.setTool(0, 1);
        due(4, z.ways(2));
        z.setTool(1, 2);
        due(2, z.ways(2));
        z.setRule(1, 0);
        due(4, z.ways(2));
        // strictly, each model for itself
        z.setModels(2);
        z.setTime(0, 1, 31);
        z.setTime(1, 1, 29);
        z.setTime(0, 0, 32);
        z.setTime(1, 0, 28);
        due(4, z.ways(2));
        z.setTime(1, 0, 27);
        z.setTime(1, 1, 30);
        due(4, z.ways(2));
        z.setRule(3, 1);
        due(2, z.ways(2));
    }

    private static void takeLeast() {
        about("promise 29");
        due(0, new LineBalancer().takeLeast());
        LineBalancer x = withTasks(5, 30);
        x.before(4, 0);
        x.assign(1, 1);
        x.assign(4, 0);
        // 0 and 4 first, then 1 and 2, then 3
        due(3, x.takeLeast());
        due("0 1 1 2 0", placesOf(x));
        due(0, x.takeLeast());
        x.pair(1, 2, true);
        due(2, x.takeLeast());
        due("0 1 2 1 0", placesOf(x));
        x.undo();
        due("0 1 1 2 0", placesOf(x));
        LineBalancer y = withTasks(1, 99);
        y.assign(0, -1);
        thrown(ELEMENT, y::takeLeast);
        due(-1, y.task(0, 5));
        y.setCopies(7, 2);
        due(1, y.takeLeast());
        due(7, y.task(0, 5));
        // a task that could be in a station that stays empty
        LineBalancer gap = withTasks(2, 10);
        gap.setTime(1, 0, 90);
        gap.setCopies(2, 2);
        due(2, gap.takeLeast());
        due("0 2", placesOf(gap));
        LineBalancer z = withTasks(9, 0);
        thrown(STATE, z::takeLeast);
        LineBalancer eight = withTasks(8, 35);
        for (int t = 0; t < 7; t++) {
            eight.before(t + 1, t);
        }
        due(8, eight.takeLeast());
        due("7 6 5 4 3 2 1 0", placesOf(eight));
        eight.setRule(0, 70);
        eight.drop(6, 7);
        due(8, eight.takeLeast());
        due("3 2 2 1 1 0 0 3", placesOf(eight));
    }

    private static void feed() {
        about("promise 30");
        LineBalancer x = new LineBalancer();
        for (int i = 1; i <= 80; i++) {
            due(i, x.feed((char) (i * 819)));
        }
        thrown(STATE, () -> x.feed('a'));
        thrown(STATE, () -> x.feed('a'));
        due(true, x.read() <= -100);
        due(1, x.feed('a'));
        x.save();
        x.restore();
        due(2, x.feed('a'));
    }

    private static void readErrors() {
        about("promise 31");
        Object[][] rows = {
            {"", 0}, {" ", 0}, {";", 0}, {"p", 0}, {"pu", 0}, {"put", 3}, {"put ", 4}, {"put 0", 5},
            {"put 0 ", 6}, {"puts 0 1", 0}, {"Put 0 1", 0}, {"putT", 3}, {"put1", 3}, {"put  0 1", 4},
            {"put 0 1 ", 7}, {"put 0 1 2", 7}, {"put 0 1;", 8}, {"put 0 1; put 0 1", 8}, {"put 0 1;;", 8},
            {"put 0 1;pur 0 1", 8}, {"put 0 1;pu", 8}, {"put 0 1;put", 11}, {"put 0 1put 0 1", 7},
            {"put 0001 1", 7}, {"put 0 0001", 9}, {"put 0;1", 5}, {"put -1 0", 4}, {"put x 0", 4},
            {"task 1 2 3", 10}, {"task 1 2 3;", 10}, {"task 1 2 3 4 5", 12}, {"cycle 10 10", 8},
            {"cycle", 5}, {"cycles", 0}, {"before 0 1\u0000", 10}, {"apart 0 1.", 9}, {"together 0,1", 10},
            {"\uffff", 0}, {"task\u00a01 2 3 4", 4}, {"put 0 \u0661", 6}, {"putput 0 0", 0}, {"z", 0},
            {"taskz", 0}, {"xask 1 2 3 4", 0}, {"tasx 1 2 3 4", 0},
            {"{", 0}, {"`", 0}, {"put{", 3}, {"put /", 4}, {"put :", 4}};
        for (Object[] row : rows) {
            LineBalancer x = withTasks(2, 1);
            due(-100 - (int) row[1], read(x, (String) row[0]));
            due(1, x.feed('p'));
            due(1, x.undo());
        }
    }

    private static void readCommandsBehindLongerInput() {
        about("promise 31");
        LineBalancer x = withTasks(3, 1);
        due(-109, read(x, "put 0 12;puts"));
        due(1, read(x, "put 0 1"));
        due(1, x.task(0, 5));
        thrown(SUPPORTED, () -> read(x, "put 0 1;put 9 9"));
        due(1, read(x, "put 0 1"));
        due(-100, read(x, "puts"));
        due(-103, read(x, "put"));
        StringBuilder text = new StringBuilder();
        for (int i = 0; i < 9; i++) {
            text.append("put 0 ").append(i % 8).append(';');
        }
        due(80, text.append("put 2 06").length());
        due(10, read(x, text.toString()));
        due(0, x.task(0, 5));
        due(6, x.task(2, 5));
        due(-179, read(x, text.substring(0, 79) + "."));
        due(-180, read(x, text.substring(0, 72) + "put 0 0;"));
        due(-172, read(x, text.substring(0, 72) + "putputpu"));
    }

    private static void readCommands() {
        about("promise 31");
        LineBalancer x = new LineBalancer();
        due(3, read(x, "task 12 8 0 2;task 009 99 99 000;before 0 1"));
        due(2, x.size());
        due(12, x.task(0, 0));
        due(8, x.task(0, 1));
        due(0, x.task(0, 2));
        due(2, x.task(0, 3));
        due(9, x.task(1, 0));
        due(1, x.task(1, 8));
        due(1, read(x, "apart 0 1"));
        due(2, x.task(0, 9));
        due(1, read(x, "together 1 000"));
        due(0, x.task(0, 9));
        due(2, x.task(0, 10));
        due(2, read(x, "put 1 07;put 0 7"));
        due(7, x.task(0, 5));
        due(1, read(x, "cycle 999"));
        due(999, x.rule(0));
        due(10, read(x, "put 0 7;put 0 7;put 0 7;put 0 7;put 0 7;put 0 7;put 0 7;put 0 7;put 0 7;put 0 7"));
        due(5, x.undo());
    }

    private static void readRefused() {
        about("promise 31");
        String[] bad = {"task 100 0 0 0", "task 0 0 0 6", "before 0 0", "before 0 3", "before 0 1;before 0 1",
            "before 0 1;before 1 0", "before 1 2;before 2 0;before 0 1", "apart 1 1", "together 0 3", "apart 3 0",
            "put 3 0", "put 0 8", "cycle 9", "cycle 0", "cycle 10;put 0 0"};
        for (int i = 0; i < bad.length; i++) {
            LineBalancer x = withTasks(3, 20);
            String old = answers(x);
            String text = bad[i];
            thrown(SUPPORTED, () -> read(x, text));
            due(old, answers(x));
            due(1, x.feed('a'));
            if (i < bad.length - 1) {
                thrown(ELEMENT, x::whyNot);
            } else {
                due(6, x.whyNot());
            }
            due(2, x.undo());
        }
        LineBalancer x = withTasks(12, 1);
        thrown(SUPPORTED, () -> read(x, "put 0 3;task 0 0 0 0"));
        due(-1, x.task(0, 5));
        thrown(SUPPORTED, () -> read(x, "before 0 1;put 0 3;put 1 2;put 5 5"));
        due(1, x.whyNot());
        due(-1, x.task(0, 5));
        due(0, x.task(1, 6));
        // an error is found before anything is carried out
        due(-107, read(x, "put 0 8."));
        thrown(SUPPORTED, () -> read(x, "put 0 9"));
        due(1, x.whyNot());
    }

    private static void undo() {
        about("promise 32");
        LineBalancer x = new LineBalancer();
        thrown(STATE, x::undo);
        for (int i = 0; i < 10; i++) {
            x.addTask(i, 0, 0, 0);
        }
        for (int left = 7; left >= 0; left--) {
            due(left, x.undo());
            due(left + 2, x.size());
        }
        thrown(STATE, x::undo);
        due(2, x.size());
        // a change behind an undo
        x.setModels(2);
        x.setModels(3);
        due(1, x.undo());
        x.setDemand(0, 5);
        due(1, x.undo());
        due(2, x.rule(4));
        due(1, x.rule(6));
        due(0, x.undo());
        due(1, x.rule(4));
        // calls that throw, and calls that change nothing else
        thrown(ARGUMENT, () -> x.setModels(4));
        thrown(STATE, x::undo);
        x.setModels(1);
        x.feed('p');
        x.save();
        x.least();
        x.station(0, 0);
        due(0, x.undo());
        due(2, x.feed('u'));
        // failing changes cost none of the eight
        for (int i = 0; i < 9; i++) {
            x.setRule(0, 100 + i);
        }
        x.read();
        x.setTime(0, 0, 99);
        x.setRule(0, 10);
        thrown(SUPPORTED, () -> x.fill(0));
        thrown(SUPPORTED, () -> read(x, "task 1 1 1 1;put 0 0"));
        for (int left = 7; left >= 0; left--) {
            due(left, x.undo());
        }
        due(102, x.rule(0));
    }

    private static void undoOfEachChange() {
        about("promise 32");
        for (int change = 0; change < 15; change++) {
            LineBalancer x = withTasks(4, 15);
            x.before(0, 1);
            x.pair(2, 3, true);
            x.assign(2, 5);
            String old = answers(x);
            carryOut(x, change);
            due(7, x.undo());
            due(old, answers(x));
        }
    }

    private static void carryOut(LineBalancer x, int change) {
        switch (change) {
            case 0: x.setModels(3); break;
            case 1: x.setDemand(0, 4); break;
            case 2: x.setRule(2, 3); break;
            case 3: x.setCopies(5, 2); break;
            case 4: x.addTask(1, 2, 3, 4); break;
            case 5: x.setTime(2, 0, 7); break;
            case 6: x.setTool(2, 4); break;
            case 7: x.before(1, 2); break;
            case 8: x.pair(0, 1, false); break;
            case 9: x.drop(3, 2); break;
            case 10: x.assign(1, 6); break;
            case 11: x.fill(2); break;
            case 12: x.takeLeast(); break;
            case 13: x.clearLine(); break;
            default: read(x, "task 1 1 1 1;apart 0 4;put 4 3;before 3 4;cycle 70");
        }
    }

    private static void save() {
        about("promise 33");
        LineBalancer x = new LineBalancer();
        due(0, x.save());
        x.addTask(1, 2, 3, 4);
        x.addTask(1, 2, 3, 4);
        due(2, x.save());
        x.addTask(1, 2, 3, 4);
        // undo does not change what is saved, and save can not be undone
        due(2, x.undo());
        due(1, x.undo());
        due(2, x.restore());
        due(2, x.size());
    }

    private static void restore() {
        about("promise 34");
        LineBalancer x = withTasks(3, 20);
        thrown(STATE, x::restore);
        x.before(0, 1);
        x.pair(1, 2, false);
        x.setModels(2);
        x.setDemand(2, 7);
        x.setRule(1, 9);
        x.setCopies(4, 3);
        x.setTool(0, 5);
        x.assign(0, 4);
        String old = answers(x);
        x.save();
        for (int i = 0; i < 2; i++) {
            x.addTask(1, 1, 1, 1);
            x.drop(0, 1);
            x.drop(1, 2);
            x.setModels(3);
            x.setDemand(2, 1);
            x.setRule(1, 1);
            x.setRule(3, 1);
            x.setCopies(4, 1);
            x.setTool(0, 2);
            x.setTime(1, 1, 44);
            x.clearLine();
            x.feed('c');
            due(3, x.restore());
            due(old, answers(x));
            thrown(STATE, x::undo);
        }
        due(3, x.feed('y'));
        x.setModels(1);
        due(0, x.undo());
    }

    private static void wildArguments() {
        about("all promises");
        LineBalancer x = withTasks(3, 5);
        for (int v : WILD) {
            for (int w : WILD) {
                thrown(INDEX, () -> x.setDemand(v, w));
                thrown(ARGUMENT, () -> x.setRule(v, w));
                thrown(INDEX, () -> x.setCopies(v, w));
                thrown(ARGUMENT, () -> x.addTask(v, w, v, w));
                thrown(INDEX, () -> x.setTime(0, v, w));
                thrown(INDEX, () -> x.before(v, w));
                thrown(INDEX, () -> x.pair(v, w, true));
                thrown(INDEX, () -> x.drop(v, w));
                thrown(INDEX, () -> x.task(v, w));
                thrown(INDEX, () -> x.priority(v, w));
                thrown(INDEX, () -> x.assign(v, w));
                thrown(INDEX, () -> x.reason(v, w));
                thrown(INDEX, () -> x.station(v, w));
                thrown(INDEX, () -> x.time(v, w, true));
                thrown(INDEX, () -> x.sequence(v, w));
            }
            thrown(ARGUMENT, () -> x.setModels(v));
            thrown(ARGUMENT, () -> x.rule(v));
            thrown(ARGUMENT, () -> x.line(v));
            thrown(ARGUMENT, () -> x.fill(v));
            thrown(ARGUMENT, () -> x.ways(v));
            thrown(ELEMENT, () -> x.sequence(0, v));
        }
        due(2, x.undo());
    }
}
