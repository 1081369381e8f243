import java.util.ArrayList;
import java.util.Arrays;
import java.util.List;
import java.util.NoSuchElementException;
import java.util.Random;
import java.util.concurrent.Callable;
import java.util.regex.Matcher;
import java.util.regex.Pattern;

/**
 * Random runs of calls, each answered by LineBalancer and by a slow model that follows the words
 * of the document: the answers, and the exact classes of the exceptions, must be the same.
 */
public final class ComparisonTests {
    private static final int RUNS = 600;
    private static final int[] EXTREMES = {Integer.MIN_VALUE, Integer.MAX_VALUE, -1000, 1000, 256, -2};

    private static int wrong;

    public static void main(String[] args) throws Exception {
        for (int run = 0; run < RUNS && wrong < 10; run++) {
            new Run(run).play();
        }
        System.out.println(wrong == 0 ? "ComparisonTests: all answers are the same" : "ComparisonTests: failed");
        if (wrong != 0) {
            System.exit(1);
        }
    }

    /** One run of calls on a new object and a new model. */
    private static final class Run {
        private final int number;
        private final Random random;
        private final int maxTasks;
        private final int linkChance;
        private final LineBalancer real = new LineBalancer();
        private final Model model = new Model();
        private final List<String> calls = new ArrayList<>();

        Run(int number) {
            this.number = number;
            this.random = new Random(number);
            this.maxTasks = 1 + random.nextInt(random.nextInt(3) == 0 ? 12 : 5);
            this.linkChance = random.nextInt(5);
        }

        void play() throws Exception {
            int start = random.nextInt(3) == 0 ? 0 : maxTasks;
            for (int i = 0; i < start; i++) {
                stepAdd();
            }
            while (calls.size() < 500 && wrong < 10) {
                step();
            }
        }

        private void check(String call, Callable<Object> asked, Callable<Object> due) throws Exception {
            calls.add(call);
            String got = answer(asked);
            String want = answer(due);
            if (!got.equals(want)) {
                wrong++;
                System.out.println("run " + number + ": " + call + " answered " + got + ", due is " + want
                        + "; the calls before: " + calls.subList(Math.max(0, calls.size() - 40), calls.size()));
            }
        }

        private static String answer(Callable<Object> call) throws Exception {
            try {
                return String.valueOf(call.call());
            } catch (RuntimeException e) {
                return e.getClass().getName();
            }
        }

        private int odd(int lowest, int highest) {
            int dice = random.nextInt(60);
            if (dice == 0) {
                return EXTREMES[random.nextInt(EXTREMES.length)];
            }
            if (dice < 3) {
                return dice == 1 ? lowest - 1 : highest + 1;
            }
            return lowest + random.nextInt(Math.max(1, highest - lowest + 1));
        }

        private int anyTask() {
            return odd(0, model.now.times.size() - 1);
        }

        private int anyTime() {
            int dice = random.nextInt(4);
            return dice == 0 ? 0 : odd(0, dice == 1 ? 99 : 30);
        }

        private void step() throws Exception {
            int dice = random.nextInt(100);
            if (dice < 12) {
                stepRules();
            } else if (dice < 38) {
                stepTasks();
            } else if (dice < 62) {
                stepLine();
            } else if (dice < 80) {
                stepQuestions();
            } else if (dice < 84) {
                stepLeast();
            } else if (dice < 90) {
                stepText();
            } else if (random.nextInt(3) == 0) {
                stepUndo();
            }
        }

        private void stepRules() throws Exception {
            int a = odd(1, 3);
            int m = odd(0, 2);
            int d = odd(1, 9);
            int r = odd(0, 3);
            int[] lows = {10, 0, 1, 0};
            int[] highs = {random.nextBoolean() ? 999 : 120, 20, 5, 1};
            int v = r >= 0 && r <= 3 ? odd(lows[r], highs[r]) : 3;
            int s = odd(0, 7);
            int w = odd(0, 8);
            switch (random.nextInt(5)) {
                case 0:
                    check("setModels(" + a + ")", () -> real.setModels(a), () -> model.setModels(a));
                    break;
                case 1:
                    check("setDemand(" + m + "," + d + ")", () -> real.setDemand(m, d), () -> model.setDemand(m, d));
                    break;
                case 2:
                    check("setRule(" + r + "," + v + ")", () -> real.setRule(r, v), () -> model.setRule(r, v));
                    break;
                case 3:
                    check("rule(" + w + ")", () -> real.rule(w), () -> model.rule(w));
                    break;
                default:
                    check("setCopies(" + s + "," + a + ")", () -> real.setCopies(s, a), () -> model.setCopies(s, a));
            }
        }

        private void stepAdd() throws Exception {
            int a = anyTime();
            int b = anyTime();
            int c = anyTime();
            int tool = odd(0, 5);
            check("addTask(" + a + "," + b + "," + c + "," + tool + ")", () -> real.addTask(a, b, c, tool),
                    () -> model.addTask(a, b, c, tool));
        }

        private void stepTasks() throws Exception {
            int t = anyTask();
            int o = anyTask();
            int a = anyTime();
            int tool = odd(0, 5);
            int m = odd(0, 2);
            boolean apart = random.nextInt(3) != 0;
            int dice = random.nextInt(10);
            if (dice < 4 && (model.now.times.size() < maxTasks || random.nextInt(40) == 0)) {
                stepAdd();
            } else if (dice < 5) {
                check("setTime(" + t + "," + m + "," + a + ")", () -> real.setTime(t, m, a),
                        () -> model.setTime(t, m, a));
            } else if (dice < 6) {
                check("setTool(" + t + "," + tool + ")", () -> real.setTool(t, tool), () -> model.setTool(t, tool));
            } else if (dice < 8 && random.nextInt(5) < linkChance) {
                check("before(" + t + "," + o + ")", () -> real.before(t, o), () -> model.before(t, o));
            } else if (dice < 9 && random.nextInt(5) < linkChance) {
                check("pair(" + t + "," + o + "," + apart + ")", () -> real.pair(t, o, apart),
                        () -> model.pair(t, o, apart));
            } else if (random.nextInt(4) == 0) {
                check("drop(" + t + "," + o + ")", () -> real.drop(t, o), () -> model.drop(t, o));
            }
        }

        private void stepLine() throws Exception {
            int t = anyTask();
            int s = odd(random.nextInt(4) == 0 ? -1 : 0, random.nextInt(3) == 0 ? 7 : 2);
            int p = odd(0, 3);
            int dice = random.nextInt(24);
            if (dice < 12) {
                check("assign(" + t + "," + s + ")", () -> real.assign(t, s), () -> model.assign(t, s));
            } else if (dice < 16) {
                check("fill(" + p + ")", () -> real.fill(p), () -> model.fill(p));
            } else if (dice < 17) {
                check("clearLine()", () -> real.clearLine(), () -> model.clearLine());
            } else if (dice < 20) {
                check("whyNot()", () -> real.whyNot(), () -> model.whyNot());
            } else {
                check("reason(" + t + "," + s + ")", () -> real.reason(t, s), () -> model.reason(t, s));
            }
        }

        private void stepQuestions() throws Exception {
            int t = anyTask();
            int s = odd(0, random.nextInt(3) == 0 ? 7 : 2);
            int w = odd(0, 11);
            int w5 = odd(0, 5);
            int w7 = odd(0, 7);
            int p = odd(0, 3);
            int m = odd(0, model.now.models - 1);
            boolean changes = random.nextBoolean();
            switch (random.nextInt(9)) {
                case 0:
                    check("task(" + t + "," + w + ")", () -> real.task(t, w), () -> model.task(t, w));
                    break;
                case 1:
                    check("priority(" + t + "," + p + ")", () -> real.priority(t, p), () -> model.priority(t, p));
                    break;
                case 2:
                    check("size()", () -> real.size(), () -> model.now.times.size());
                    break;
                case 3:
                    check("station(" + s + "," + w5 + ")", () -> real.station(s, w5), () -> model.station(s, w5));
                    break;
                case 4:
                    check("time(" + s + "," + m + "," + changes + ")", () -> real.time(s, m, changes),
                            () -> model.time(s, m, changes));
                    break;
                case 5:
                    check("sequence(" + s + "," + p + ")", () -> real.sequence(s, p), () -> model.sequence(s, p));
                    break;
                case 6:
                    check("line(" + w7 + ")", () -> real.line(w7), () -> model.line(w7));
                    break;
                case 7:
                    check("efficiency()", () -> real.efficiency(), () -> model.efficiency());
                    break;
                default:
                    check("unevenness()", () -> real.unevenness(), () -> model.unevenness());
            }
        }

        private void stepLeast() throws Exception {
            int tasks = model.now.times.size();
            int n = odd(0, tasks <= 4 ? 8 : tasks <= 6 ? 3 : 2);
            if (n > 4 && tasks > 5 && tasks < 9 && n <= 8) {
                return;
            }
            if (random.nextBoolean() || tasks == 5 && random.nextInt(4) != 0 || tasks > 5 && tasks < 9) {
                check("ways(" + n + ")", () -> real.ways(n), () -> model.ways(n));
            } else if (random.nextBoolean()) {
                check("least()", () -> real.least(), () -> model.least());
            } else {
                check("takeLeast()", () -> real.takeLeast(), () -> model.takeLeast());
            }
        }

        private void stepText() throws Exception {
            if (calls.size() > 400) {
                return;
            }
            String text = anyText();
            // an object has 512 calls
            for (int i = 0; i < Math.min(text.length(), 100); i++) {
                char c = text.charAt(i);
                check("feed(" + c + ")", () -> real.feed(c), () -> model.feed(c));
            }
            if (random.nextInt(6) != 0) {
                check("read()", () -> real.read(), () -> model.read());
            }
        }

        private String anyText() {
            StringBuilder text = new StringBuilder();
            int commands = random.nextInt(20) == 0 ? 0 : 1 + random.nextInt(random.nextInt(12) == 0 ? 12 : 3);
            for (int i = 0; i < commands; i++) {
                text.append(i == 0 ? "" : ";").append(anyCommand());
            }
            if (random.nextInt(3) == 0) {
                mutate(text);
            }
            return text.toString();
        }

        private String anyCommand() {
            int dice = random.nextInt(12);
            String two = " " + zeros(random.nextInt(Math.max(1, model.now.times.size()))) + " ";
            if (dice < 3) {
                return "task " + random.nextInt(40) + " " + random.nextInt(101) + " " + random.nextInt(9) + " "
                        + zeros(random.nextInt(6));
            }
            if (dice < 4) {
                return "cycle " + zeros(random.nextInt(1000));
            }
            if (dice < 7) {
                return "put" + two + zeros(random.nextInt(9));
            }
            String word = dice < 9 ? "before" : dice < 10 ? "apart" : "together";
            return word + two + random.nextInt(Math.max(1, model.now.times.size() + 1));
        }

        private String zeros(int value) {
            String digits = Integer.toString(value);
            return digits.length() < 3 && random.nextInt(5) == 0 ? "0" + digits : digits;
        }

        private void mutate(StringBuilder text) {
            String signs = "putaskz 0123;;  AZ`{/:\u00e9\uffff\u0000";
            int at = random.nextInt(text.length() + 1);
            char sign = signs.charAt(random.nextInt(signs.length()));
            int dice = random.nextInt(3);
            if (dice == 0 || text.length() == 0) {
                text.insert(at, sign);
            } else if (dice == 1) {
                text.setLength(at);
            } else if (at < text.length()) {
                text.setCharAt(at, sign);
            }
        }

        private void stepUndo() throws Exception {
            int dice = random.nextInt(12);
            if (dice < 8) {
                check("undo()", () -> real.undo(), () -> model.undo());
            } else if (dice < 10) {
                check("save()", () -> real.save(), () -> model.save());
            } else {
                check("restore()", () -> real.restore(), () -> model.restore());
            }
        }
    }

    /** What undo and the snapshot bring back. */
    private static final class Data {
        int models = 1;
        int[] demands = {1, 1, 1};
        int[] rules = {60, 2, 5, 0};
        int[] copies = {1, 1, 1, 1, 1, 1, 1, 1};
        List<int[]> times = new ArrayList<>();
        List<Integer> tools = new ArrayList<>();
        int[] places = new int[12];
        boolean[][] direct = new boolean[12][12];
        int[][] pairs = new int[12][12];

        Data copy() {
            Data other = new Data();
            other.models = models;
            other.demands = demands.clone();
            other.rules = rules.clone();
            other.copies = copies.clone();
            for (int[] row : times) {
                other.times.add(row.clone());
            }
            other.tools.addAll(tools);
            other.places = places.clone();
            for (int i = 0; i < 12; i++) {
                other.direct[i] = direct[i].clone();
                other.pairs[i] = pairs[i].clone();
            }
            return other;
        }
    }

    /** The slow model. */
    private static final class Model {
        Data now = new Data();
        private Data saved;
        private final List<Data> past = new ArrayList<>();
        private final StringBuilder input = new StringBuilder();
        private int kept;

        private int n() {
            return now.times.size();
        }

        private void index(boolean right) {
            if (!right) {
                throw new IndexOutOfBoundsException();
            }
        }

        private void argument(boolean right) {
            if (!right) {
                throw new IllegalArgumentException();
            }
        }

        private void change() {
            past.add(now.copy());
            if (past.size() > 8) {
                past.remove(0);
            }
        }

        private boolean isTask(int t) {
            return t >= 0 && t < n();
        }

        private boolean in(int v, int low, int high) {
            return low <= v && v <= high;
        }

        int setModels(int count) {
            argument(in(count, 1, 3));
            change();
            int old = now.models;
            now.models = count;
            return old;
        }

        int setDemand(int m, int d) {
            index(in(m, 0, 2));
            argument(in(d, 1, 9));
            change();
            int old = now.demands[m];
            now.demands[m] = d;
            return old;
        }

        int setRule(int r, int v) {
            argument(r == 0 && in(v, 10, 999) || r == 1 && in(v, 0, 20) || r == 2 && in(v, 1, 5)
                    || r == 3 && in(v, 0, 1));
            change();
            int old = now.rules[r];
            now.rules[r] = v;
            return old;
        }

        int rule(int what) {
            argument(in(what, 0, 8));
            return what < 4 ? now.rules[what] : what == 4 ? now.models : what == 5 ? demand() : now.demands[what - 6];
        }

        private int demand() {
            return Arrays.stream(now.demands, 0, now.models).sum();
        }

        int setCopies(int s, int c) {
            index(in(s, 0, 7));
            argument(in(c, 1, 3));
            change();
            int old = now.copies[s];
            now.copies[s] = c;
            return old;
        }

        int addTask(int a, int b, int c, int tool) {
            argument(in(a, 0, 99) && in(b, 0, 99) && in(c, 0, 99) && in(tool, 0, 5));
            if (n() == 12) {
                throw new IllegalStateException();
            }
            change();
            now.times.add(new int[] {a, b, c});
            now.tools.add(tool);
            now.places[n() - 1] = -1;
            return n() - 1;
        }

        int setTime(int t, int m, int v) {
            index(isTask(t) && in(m, 0, 2));
            argument(in(v, 0, 99));
            change();
            int old = now.times.get(t)[m];
            now.times.get(t)[m] = v;
            return old;
        }

        int setTool(int t, int tool) {
            index(isTask(t));
            argument(in(tool, 0, 5));
            change();
            return now.tools.set(t, tool);
        }

        private boolean isBefore(int t, int o) {
            for (int next = 0; next < 12; next++) {
                if (now.direct[t][next] && (next == o || isBefore(next, o))) {
                    return true;
                }
            }
            return false;
        }

        private int aheadOf(int t) {
            int set = 0;
            for (int o = 0; o < n(); o++) {
                set |= isBefore(o, t) ? 1 << o : 0;
            }
            return set;
        }

        private int behind(int t) {
            int set = 0;
            for (int o = 0; o < n(); o++) {
                set |= isBefore(t, o) ? 1 << o : 0;
            }
            return set;
        }

        int before(int t, int o) {
            index(isTask(t) && isTask(o));
            argument(t != o && !now.direct[t][o]);
            if (isBefore(o, t)) {
                throw new UnsupportedOperationException();
            }
            change();
            now.direct[t][o] = true;
            return Integer.bitCount(aheadOf(o));
        }

        int pair(int t, int o, boolean apart) {
            index(isTask(t) && isTask(o));
            argument(t != o);
            change();
            int old = now.pairs[t][o];
            now.pairs[t][o] = apart ? 1 : 2;
            now.pairs[o][t] = apart ? 1 : 2;
            return old;
        }

        int drop(int t, int o) {
            index(isTask(t) && isTask(o));
            int answer = (now.direct[t][o] || now.direct[o][t] ? 1 : 0) + (now.pairs[t][o] != 0 ? 2 : 0);
            if (answer == 0) {
                throw new NoSuchElementException();
            }
            change();
            now.direct[t][o] = false;
            now.direct[o][t] = false;
            now.pairs[t][o] = 0;
            now.pairs[o][t] = 0;
            return answer;
        }

        private int weighted(int t) {
            int sum = 0;
            for (int m = 0; m < now.models; m++) {
                sum += now.demands[m] * now.times.get(t)[m];
            }
            return sum;
        }

        private int partners(int t, int kind) {
            int set = 0;
            for (int o = 0; o < n(); o++) {
                set |= now.pairs[t][o] == kind ? 1 << o : 0;
            }
            return set;
        }

        int task(int t, int what) {
            index(isTask(t));
            argument(in(what, 0, 11));
            if (what < 3) {
                return now.times.get(t)[what];
            }
            if (what == 8) {
                int set = 0;
                for (int o = 0; o < n(); o++) {
                    set |= now.direct[o][t] ? 1 << o : 0;
                }
                return set;
            }
            return what == 3 ? now.tools.get(t) : what == 4 ? weighted(t) : what == 5 ? now.places[t]
                    : what == 6 ? aheadOf(t) : what == 7 ? behind(t) : what == 9 ? partners(t, 1)
                    : what == 10 ? partners(t, 2) : lowest(t);
        }

        private int lowest(int t) {
            for (int s = 0; s < 8; s++) {
                if (refusal(t, s) == 0) {
                    return s;
                }
            }
            return -1;
        }

        int priority(int t, int p) {
            index(isTask(t));
            argument(in(p, 0, 3));
            int sum = weighted(t);
            for (int o = 0; o < n(); o++) {
                sum += isBefore(t, o) ? weighted(o) : 0;
            }
            return p == 0 ? sum : p == 1 ? weighted(t) : p == 2 ? Integer.bitCount(behind(t)) : 0;
        }

        private List<Integer> tasksOf(int s) {
            List<Integer> list = new ArrayList<>();
            for (int t = 0; t < n(); t++) {
                if (now.places[t] == s) {
                    list.add(t);
                }
            }
            return list;
        }

        private List<Integer> sequenceOf(int s) {
            List<Integer> left = tasksOf(s);
            List<Integer> order = new ArrayList<>();
            while (!left.isEmpty()) {
                for (Integer t : left) {
                    if (left.stream().noneMatch(o -> isBefore(o, t))) {
                        order.add(t);
                        left.remove(t);
                        break;
                    }
                }
            }
            return order;
        }

        private int changes(int s, int m) {
            List<Integer> looked = new ArrayList<>();
            for (int t : sequenceOf(s)) {
                if (now.times.get(t)[m] > 0 && now.tools.get(t) != 0) {
                    looked.add(now.tools.get(t));
                }
            }
            int count = 0;
            for (int i = 0; i < looked.size(); i++) {
                count += looked.get(i).equals(looked.get((i + 1) % looked.size())) ? 0 : 1;
            }
            return count;
        }

        private int timeOf(int s, int m) {
            return tasksOf(s).stream().mapToInt(t -> now.times.get(t)[m]).sum() + changes(s, m) * now.rules[1];
        }

        private int load(int s) {
            int sum = 0;
            for (int m = 0; m < now.models; m++) {
                sum += now.demands[m] * timeOf(s, m);
            }
            return sum;
        }

        private boolean fits(int s) {
            if (now.rules[3] == 0) {
                return load(s) <= now.copies[s] * now.rules[0] * demand();
            }
            for (int m = 0; m < now.models; m++) {
                if (timeOf(s, m) > now.copies[s] * now.rules[0]) {
                    return false;
                }
            }
            return true;
        }

        private int refusal(int t, int s) {
            int old = now.places[t];
            now.places[t] = s;
            int answer = refusalHere(t, s);
            now.places[t] = old;
            return answer;
        }

        private int refusalHere(int t, int s) {
            boolean[] is = new boolean[5];
            for (int o = 0; o < n(); o++) {
                int place = now.places[o];
                is[1] |= isBefore(o, t) && place > s;
                is[2] |= isBefore(t, o) && place != -1 && place < s;
                is[3] |= now.pairs[t][o] == 1 && place == s;
                is[4] |= now.pairs[t][o] == 2 && place != -1 && place != s;
            }
            for (int r = 1; r <= 4; r++) {
                if (is[r]) {
                    return r;
                }
            }
            return Integer.bitCount(toolsOf(s)) > now.rules[2] ? 5 : fits(s) ? 0 : 6;
        }

        private int toolsOf(int s) {
            int set = 0;
            for (int t : tasksOf(s)) {
                set |= 1 << now.tools.get(t);
            }
            return set & ~1;
        }

        int assign(int t, int s) {
            index(isTask(t) && in(s, -1, 7));
            int why = s == -1 ? 0 : refusal(t, s);
            if (why != 0) {
                kept = why;
                throw new UnsupportedOperationException();
            }
            change();
            int old = now.places[t];
            now.places[t] = s;
            return old;
        }

        int reason(int t, int s) {
            index(isTask(t) && in(s, 0, 7));
            return refusal(t, s);
        }

        int whyNot() {
            if (kept == 0) {
                throw new NoSuchElementException();
            }
            return kept;
        }

        int station(int s, int what) {
            index(in(s, 0, 7));
            argument(in(what, 0, 5));
            int set = tasksOf(s).stream().mapToInt(t -> 1 << t).sum();
            return what == 0 ? set : what == 1 ? now.copies[s] : what == 2 ? load(s) : what == 3 ? (fits(s) ? 1 : 0)
                    : what == 4 ? toolsOf(s) : lack(s);
        }

        private int lack(int s) {
            return now.copies[s] * now.rules[0] * demand() - load(s);
        }

        int time(int s, int m, boolean changes) {
            index(in(s, 0, 7) && in(m, 0, now.models - 1));
            return changes ? changes(s, m) : timeOf(s, m);
        }

        int sequence(int s, int place) {
            index(in(s, 0, 7));
            List<Integer> order = sequenceOf(s);
            if (!in(place, 0, order.size() - 1)) {
                throw new NoSuchElementException();
            }
            return order.get(place);
        }

        int line(int what) {
            argument(in(what, 0, 7));
            int used = 0;
            int copies = 0;
            int placed = 0;
            int best = 0;
            int loads = 0;
            int misfits = 0;
            for (int s = 0; s < 8; s++) {
                int count = tasksOf(s).size();
                used += count > 0 ? 1 : 0;
                copies += count > 0 ? now.copies[s] : 0;
                placed += count;
                // loads by the sixth of a copy are whole numbers
                best = load(s) * 6 / now.copies[s] > load(best) * 6 / now.copies[best] ? s : best;
                loads += load(s);
                misfits += fits(s) ? 0 : 1;
            }
            int refused = 0;
            int all = 0;
            for (int t = 0; t < n(); t++) {
                refused += now.places[t] != -1 && refusal(t, now.places[t]) != 0 ? 1 : 0;
                all += weighted(t);
            }
            int up = (int) Math.ceil(all / (double) (now.rules[0] * demand()));
            return new int[] {used, copies, placed, best, loads, refused, misfits, up}[what];
        }

        float efficiency() {
            int copies = line(1);
            if (copies == 0) {
                throw new ArithmeticException();
            }
            int sum = 0;
            for (int t = 0; t < n(); t++) {
                sum += now.places[t] == -1 ? 0 : weighted(t);
            }
            float below = copies * now.rules[0] * demand();
            return (float) sum / below;
        }

        long unevenness() {
            long sum = 0;
            for (int s = 0; s < 8; s++) {
                sum += tasksOf(s).isEmpty() ? 0 : (long) lack(s) * lack(s);
            }
            return sum;
        }

        int clearLine() {
            int count = line(2);
            change();
            Arrays.fill(now.places, -1);
            return count;
        }

        int fill(int p) {
            argument(in(p, 0, 3));
            Data old = now.copy();
            Arrays.fill(now.places, -1);
            while (line(2) < n()) {
                int best = -1;
                for (int t = 0; t < n(); t++) {
                    boolean isFree = now.places[t] == -1;
                    for (int o = 0; o < n(); o++) {
                        isFree &= !isBefore(o, t) || now.places[o] != -1;
                    }
                    best = isFree && (best == -1 || priority(t, p) > priority(best, p)) ? t : best;
                }
                int s = lowest(best);
                if (s == -1) {
                    kept = refusal(best, 7);
                    now = old;
                    throw new UnsupportedOperationException();
                }
                now.places[best] = s;
            }
            Data filled = now;
            now = old;
            change();
            now = filled;
            return line(0);
        }

        private void few() {
            if (n() > 8) {
                throw new IllegalStateException();
            }
        }

        private List<int[]> lines(int stations, int most) {
            int[] old = now.places;
            now.places = new int[12];
            Arrays.fill(now.places, -1);
            List<int[]> list = new ArrayList<>();
            collect(0, stations, list, most);
            now.places = old;
            return list;
        }

        private void collect(int t, int stations, List<int[]> list, int most) {
            if (t == n()) {
                if (line(5) == 0) {
                    list.add(now.places.clone());
                }
                return;
            }
            for (int s = 0; s < stations && list.size() < most; s++) {
                now.places[t] = s;
                collect(t + 1, stations, list, most);
            }
            now.places[t] = -1;
        }

        int least() {
            few();
            for (int count = 0; count <= 8; count++) {
                if (!lines(count, 1).isEmpty()) {
                    return count;
                }
            }
            throw new NoSuchElementException();
        }

        long ways(int stations) {
            argument(in(stations, 0, 8));
            few();
            return lines(stations, Integer.MAX_VALUE).size();
        }

        int takeLeast() {
            int[] places = lines(least(), 1).get(0);
            change();
            int moved = 0;
            for (int t = 0; t < n(); t++) {
                moved += places[t] != now.places[t] ? 1 : 0;
            }
            now.places = places;
            return moved;
        }

        int feed(char c) {
            if (input.length() == 80) {
                throw new IllegalStateException();
            }
            input.append(c);
            return input.length();
        }

        private static final String ONE = "(task( [0-9]{1,3}){4}|(before|apart|together|put)( [0-9]{1,3}){2}"
                + "|cycle [0-9]{1,3})";
        private static final Pattern ALL = Pattern.compile(ONE + "(;" + ONE + ")*");
        private static final List<String> WORDS = List.of("task", "before", "apart", "together", "put", "cycle");

        private int error(String text) {
            if (ALL.matcher(text).matches()) {
                return -1;
            }
            int good = 0;
            while (good < text.length() && canGoOn(text.substring(0, good + 1))) {
                good++;
            }
            int start = text.lastIndexOf(';', good - 1) + 1;
            int end = start;
            while (end < text.length() && text.charAt(end) >= 'a' && text.charAt(end) <= 'z') {
                end++;
            }
            return end > start && !WORDS.contains(text.substring(start, end)) ? start : good;
        }

        private boolean canGoOn(String text) {
            Matcher matcher = ALL.matcher(text);
            return matcher.matches() || matcher.hitEnd();
        }

        int read() {
            String text = input.toString();
            input.setLength(0);
            int error = error(text);
            if (error >= 0) {
                return -100 - error;
            }
            Data old = now.copy();
            List<Data> oldPast = new ArrayList<>(past);
            String[] commands = text.split(";");
            try {
                for (String command : commands) {
                    carryOut(command.split(" "));
                }
            } catch (RuntimeException e) {
                now = old;
                past.clear();
                past.addAll(oldPast);
                throw new UnsupportedOperationException();
            }
            past.clear();
            past.addAll(oldPast);
            Data after = now;
            now = old;
            change();
            now = after;
            return commands.length;
        }

        private void carryOut(String[] parts) {
            int[] v = new int[4];
            for (int i = 1; i < parts.length; i++) {
                v[i - 1] = Integer.parseInt(parts[i]);
            }
            switch (parts[0]) {
                case "task":
                    addTask(v[0], v[1], v[2], v[3]);
                    break;
                case "before":
                    before(v[0], v[1]);
                    break;
                case "put":
                    assign(v[0], v[1]);
                    break;
                case "cycle":
                    setRule(0, v[0]);
                    break;
                default:
                    pair(v[0], v[1], parts[0].equals("apart"));
            }
        }

        int undo() {
            if (past.isEmpty()) {
                throw new IllegalStateException();
            }
            now = past.remove(past.size() - 1);
            return past.size();
        }

        int save() {
            saved = now.copy();
            return n();
        }

        int restore() {
            if (saved == null) {
                throw new IllegalStateException();
            }
            now = saved.copy();
            past.clear();
            return n();
        }
    }
}
