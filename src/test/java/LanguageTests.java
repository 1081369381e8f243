import java.lang.reflect.Constructor;
import java.lang.reflect.Field;
import java.lang.reflect.Method;
import java.lang.reflect.Modifier;
import java.nio.file.Files;
import java.nio.file.Path;
import java.util.ArrayList;
import java.util.List;
import java.util.Set;
import java.util.TreeSet;
import java.util.regex.Matcher;
import java.util.regex.Pattern;

/** The face of the class, and those rules of ../shared/LANGUAGE.md that its text and its shape show. */
public final class LanguageTests {
    private static final Path SOURCE = Path.of("src/main/java/LineBalancer.java");
    private static final String[] FACE = {
        "int setModels(int) IllegalArgumentException",
        "int setDemand(int,int) IndexOutOfBoundsException IllegalArgumentException",
        "int setRule(int,int) IllegalArgumentException",
        "int rule(int) IllegalArgumentException",
        "int setCopies(int,int) IndexOutOfBoundsException IllegalArgumentException",
        "int addTask(int,int,int,int) IllegalArgumentException IllegalStateException",
        "int setTime(int,int,int) IndexOutOfBoundsException IllegalArgumentException",
        "int setTool(int,int) IndexOutOfBoundsException IllegalArgumentException",
        "int before(int,int) IndexOutOfBoundsException IllegalArgumentException UnsupportedOperationException",
        "int pair(int,int,boolean) IndexOutOfBoundsException IllegalArgumentException",
        "int drop(int,int) IndexOutOfBoundsException NoSuchElementException",
        "int task(int,int) IndexOutOfBoundsException IllegalArgumentException",
        "int priority(int,int) IndexOutOfBoundsException IllegalArgumentException",
        "int size()",
        "int assign(int,int) IndexOutOfBoundsException UnsupportedOperationException",
        "int reason(int,int) IndexOutOfBoundsException",
        "int whyNot() NoSuchElementException",
        "int station(int,int) IndexOutOfBoundsException IllegalArgumentException",
        "int time(int,int,boolean) IndexOutOfBoundsException",
        "int sequence(int,int) IndexOutOfBoundsException NoSuchElementException",
        "int line(int) IllegalArgumentException",
        "float efficiency() ArithmeticException",
        "long unevenness()",
        "int clearLine()",
        "int fill(int) IllegalArgumentException UnsupportedOperationException",
        "int least() IllegalStateException NoSuchElementException",
        "long ways(int) IllegalArgumentException IllegalStateException",
        "int takeLeast() IllegalStateException NoSuchElementException",
        "int feed(char) IllegalStateException",
        "int read() UnsupportedOperationException",
        "int undo() IllegalStateException",
        "int save()",
        "int restore() IllegalStateException"};
    private static final String[] BANNED = {"\\btry\\b", "\\bcatch\\b", "\\bfinally\\b", "\\bassert\\b",
        "\\bsynchronized\\b", "->", "::", "\\bpackage\\b", "\\bnative\\b", "\\bvolatile\\b", "\\bObject\\b",
        "\\bSystem\\.(?!arraycopy)", "\\bRandom\\b", "\\bThread\\b", "Exact\\(", "\\bvar\\b", "\\bprotected\\b"};
    private static final Set<String> LIBRARY = Set.of("java.util.Arrays", "java.util.NoSuchElementException",
            "java.util.ArrayList", "java.util.List", "java.util.Iterator");
    private static final int LONGEST_METHOD = 60;

    private static int wrong;

    public static void main(String[] args) throws Exception {
        String text = Files.readString(SOURCE);
        face();
        members();
        nestedClasses();
        imports(text);
        bannedWords(withoutComments(text));
        madeObjects(withoutComments(text));
        methodLengths(text);
        System.out.println("LanguageTests: " + wrong + " wrong");
        if (wrong != 0) {
            System.exit(1);
        }
    }

    private static void check(boolean right, String text) {
        if (!right) {
            wrong++;
            System.out.println("LanguageTests: " + text);
        }
    }

    private static void face() {
        Set<String> due = new TreeSet<>(List.of(FACE));
        Set<String> got = new TreeSet<>();
        for (Method method : LineBalancer.class.getDeclaredMethods()) {
            if (Modifier.isPublic(method.getModifiers())) {
                got.add(signature(method));
                check(!Modifier.isStatic(method.getModifiers()), method + " is static");
            }
        }
        check(due.equals(got), "the face is " + got);
        Constructor<?>[] constructors = LineBalancer.class.getDeclaredConstructors();
        check(constructors.length == 1 && constructors[0].getParameterCount() == 0
                && Modifier.isPublic(constructors[0].getModifiers()), "the constructor");
        check(Modifier.isFinal(LineBalancer.class.getModifiers())
                && Modifier.isPublic(LineBalancer.class.getModifiers()), "the class is public and final");
    }

    private static String signature(Method method) {
        List<String> types = new ArrayList<>();
        for (Class<?> type : method.getParameterTypes()) {
            types.add(type.getSimpleName());
        }
        StringBuilder text = new StringBuilder(method.getReturnType().getSimpleName());
        text.append(' ').append(method.getName()).append('(').append(String.join(",", types)).append(')');
        for (Class<?> type : method.getExceptionTypes()) {
            text.append(' ').append(type.getSimpleName());
        }
        return text.toString();
    }

    private static void members() {
        Set<String> names = new TreeSet<>();
        for (String row : FACE) {
            names.add(row.substring(row.indexOf(' ') + 1, row.indexOf('(')));
        }
        for (Class<?> type : allClasses()) {
            for (Method method : type.getDeclaredMethods()) {
                boolean isPublic = Modifier.isPublic(method.getModifiers()) && type == LineBalancer.class;
                check(isPublic || !names.contains(method.getName()), method + " bears a public name");
                check(type != LineBalancer.class || isPublic || Modifier.isPrivate(method.getModifiers()),
                        method + " is seen from outside");
                check(method.getParameterCount() <= 7, method + " takes too much");
            }
        }
        for (Field field : LineBalancer.class.getDeclaredFields()) {
            check(Modifier.isPrivate(field.getModifiers()), field + " is seen from outside");
        }
    }

    private static List<Class<?>> allClasses() {
        List<Class<?>> list = new ArrayList<>(List.of(LineBalancer.class.getDeclaredClasses()));
        list.add(LineBalancer.class);
        return list;
    }

    private static void nestedClasses() {
        check(allClasses().size() <= 12, "too many classes");
        for (Class<?> type : allClasses()) {
            int own = 0;
            for (Field field : type.getDeclaredFields()) {
                boolean isStatic = Modifier.isStatic(field.getModifiers());
                check(!isStatic || Modifier.isFinal(field.getModifiers()), field + " is not final");
                own += isStatic ? 0 : 1;
            }
            check(own <= 20, type + " has too many fields");
            check(type == LineBalancer.class || Modifier.isStatic(type.getModifiers())
                    && !Modifier.isPublic(type.getModifiers()), type + " must be static and not public");
        }
    }

    private static void imports(String text) {
        Matcher matcher = Pattern.compile("(?m)^import (.*);$").matcher(text);
        while (matcher.find()) {
            check(LIBRARY.contains(matcher.group(1)), "imports " + matcher.group(1));
        }
    }

    private static String withoutComments(String text) {
        return text.replaceAll("(?s)/\\*.*?\\*/", "").replaceAll("//[^\n]*", "").replaceAll("\"[^\"\n]*\"", "\"\"");
    }

    private static void bannedWords(String text) {
        for (String word : BANNED) {
            check(!Pattern.compile(word).matcher(text).find(), "the text holds " + word);
        }
        for (char c : text.toCharArray()) {
            check(c < 127, "the text holds the sign " + (int) c);
        }
    }

    /** No call of the face makes anything but an exception: all else is made once, in constructors. */
    private static void madeObjects(String text) {
        for (String line : text.split("\n")) {
            Matcher matcher = Pattern.compile("\\bnew\\b").matcher(line);
            boolean isField = line.matches("\\s+(private |final )+.*= new .*;");
            boolean isSlot = line.contains("slots[slot] = new State();");
            check(!matcher.find() || line.contains("throw new ") || isField || isSlot, "makes an object: " + line);
        }
    }

    private static void methodLengths(String text) {
        String[] lines = text.split("\n");
        int start = -1;
        for (int i = 0; i < lines.length; i++) {
            if (lines[i].matches("(    |        )[a-zA-Z].*\\{") && !lines[i].matches(".*\\b(class|enum)\\b.*")) {
                start = i;
            }
            if (start >= 0 && lines[i].matches("(    |        )}")) {
                check(i - start < LONGEST_METHOD, "a long method at line " + (start + 1));
            }
        }
    }
}
