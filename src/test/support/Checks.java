import java.lang.reflect.InvocationTargetException;
import java.lang.reflect.Method;
import java.nio.file.Path;
import java.util.ArrayList;
import java.util.Arrays;
import java.util.Comparator;
import java.util.List;
import java.util.NoSuchElementException;

/** What the tests share: to check an answer or an exception, and to make and to look at an object. */
class Checks {
    static final Class<?> INDEX = IndexOutOfBoundsException.class;
    static final Class<?> ARGUMENT = IllegalArgumentException.class;
    static final Class<?> STATE = IllegalStateException.class;
    static final Class<?> SUPPORTED = UnsupportedOperationException.class;
    static final Class<?> ELEMENT = NoSuchElementException.class;
    static final Class<?> ARITHMETIC = ArithmeticException.class;

    private static String about = "";
    private static int checks;
    private static int wrong;

    /** A call whose answer is checked. */
    interface Call {
        Object answer();
    }

    /** A call of a given object. */
    interface CallOf {
        Object answer(LineBalancer x);
    }

    // ---- checks

    static void about(String text) {
        about = text;
    }

    static void due(Object want, Object got) {
        checks++;
        if (!String.valueOf(want).equals(String.valueOf(got))) {
            fail("answered " + got + ", due is " + want);
        }
    }

    static void thrown(Class<?> want, Call call) {
        checks++;
        Object got;
        try {
            got = call.answer();
        } catch (RuntimeException e) {
            got = e.getClass();
        }
        if (got != want) {
            fail("answered " + got + ", due is " + want);
        }
    }

    private static void fail(String text) {
        wrong++;
        System.out.println(about + place() + ": " + text);
    }

    private static String place() {
        for (StackTraceElement element : Thread.currentThread().getStackTrace()) {
            String name = element.getClassName();
            if (!name.equals("Checks") && !name.startsWith("java.")) {
                return ", " + element.getFileName() + " line " + element.getLineNumber();
            }
        }
        return "";
    }

    static void finish(String name) {
        System.out.println(name + ": " + checks + " checks, " + wrong + " wrong");
        if (wrong != 0) {
            System.exit(1);
        }
    }

    /** Runs each test that says its words, and looks for sentences of the parts that no test says. */
    static void runAll(Class<?> tests, List<String> parts) throws Exception {
        Document document = new Document(Path.of("../shared/DOC.md"));
        Method[] methods = tests.getDeclaredMethods();
        Arrays.sort(methods, Comparator.comparing(Method::getName));
        for (Method method : methods) {
            Says says = method.getAnnotation(Says.class);
            if (says != null) {
                about(says.part() + ", \"" + says.quote() + "\"");
                if (!document.holds(says.part(), says.quote())) {
                    fail("the document does not say so, " + method.getName());
                }
                run(method);
            }
        }
        for (String part : parts) {
            about(part);
            List<String> quotes = quotesOf(methods, part);
            for (String sentence : document.untouched(part, quotes)) {
                fail("no test says \"" + sentence + "\"");
            }
            if (quotes.isEmpty()) {
                fail("no test");
            }
        }
        finish(tests.getName());
    }

    private static void run(Method method) throws Exception {
        int old = checks;
        try {
            method.invoke(null);
        } catch (InvocationTargetException e) {
            fail(method.getName() + " was ended by " + e.getCause() + " at "
                    + Arrays.stream(e.getCause().getStackTrace())
                            .filter(row -> row.getMethodName().equals(method.getName())).findFirst().orElse(null));
        }
        if (checks == old) {
            fail(method.getName() + " checked nothing");
        }
    }

    private static List<String> quotesOf(Method[] methods, String part) {
        List<String> quotes = new ArrayList<>();
        for (Method method : methods) {
            Says says = method.getAnnotation(Says.class);
            if (says != null && says.part().equals(part)) {
                quotes.add(says.quote());
            }
        }
        return quotes;
    }

    // ---- objects

    /** A line with so many tasks, all of the same time in the model 0 and without tool. */
    static LineBalancer withTasks(int count, int time) {
        LineBalancer x = new LineBalancer();
        for (int i = 0; i < count; i++) {
            x.addTask(time, 0, 0, 0);
        }
        return x;
    }

    /** A line with tasks of these times in the model 0, without tool. */
    static LineBalancer withTimes(int... times) {
        LineBalancer x = new LineBalancer();
        for (int time : times) {
            x.addTask(time, 0, 0, 0);
        }
        return x;
    }

    /** A line with tasks of the time 1 in the model 0 and of these tools. */
    static LineBalancer withTools(int... tools) {
        LineBalancer x = new LineBalancer();
        for (int tool : tools) {
            x.addTask(1, 0, 0, tool);
        }
        return x;
    }

    /** Four tasks in two stations, with precedence and a pair; more than 8 changes have led there. */
    static LineBalancer ofFourTasks() {
        LineBalancer x = new LineBalancer();
        x.addTask(30, 20, 0, 1);
        x.addTask(25, 30, 5, 2);
        x.addTask(20, 10, 60, 0);
        x.addTask(40, 0, 0, 3);
        x.setModels(2);
        x.setDemand(2, 2);
        x.before(0, 1);
        x.before(1, 2);
        x.pair(0, 3, true);
        x.setCopies(4, 2);
        return put(x, 1, 1, 4);
    }

    /** Puts the task 0 into the first of the stations, the task 1 into the second one, and so on. */
    static LineBalancer put(LineBalancer x, int... stations) {
        for (int task = 0; task < stations.length; task++) {
            x.assign(task, stations[task]);
        }
        return x;
    }

    static void feed(LineBalancer x, String text) {
        for (int i = 0; i < text.length(); i++) {
            x.feed(text.charAt(i));
        }
    }

    static int read(LineBalancer x, String text) {
        feed(x, text);
        return x.read();
    }

    // ---- what an object shows

    static String placesOf(LineBalancer x) {
        StringBuilder text = new StringBuilder();
        for (int t = 0; t < x.size(); t++) {
            text.append(x.task(t, 5)).append(' ');
        }
        return text.toString().trim();
    }

    static String sequenceOf(LineBalancer x, int station) {
        StringBuilder text = new StringBuilder();
        for (int place = 0; place < Integer.bitCount(x.station(station, 0)); place++) {
            text.append(x.sequence(station, place)).append(' ');
        }
        return text.toString().trim();
    }

    /** All that undo and the snapshot bring back; some 33 calls, and 12 for each task. */
    static String answers(LineBalancer x) {
        StringBuilder text = new StringBuilder();
        for (int what = 0; what <= 8; what++) {
            text.append(x.rule(what)).append(' ');
        }
        for (int what = 0; what <= 7; what++) {
            text.append(x.line(what)).append(' ');
        }
        for (int s = 0; s < 8; s++) {
            text.append(x.station(s, 0)).append(' ').append(x.station(s, 1)).append(' ');
        }
        for (int t = 0; t < x.size(); t++) {
            for (int what = 0; what <= 11; what++) {
                text.append(x.task(t, what)).append(' ');
            }
        }
        return text.toString();
    }
}
