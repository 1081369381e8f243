import java.util.List;

/** A test for each sentence of the promises 30 and 31 that names a boundary case. */
public final class CommandsBoundaryTests extends Checks {
    public static void main(String[] args) throws Exception {
        runAll(CommandsBoundaryTests.class, List.of("Promise 30", "Promise 31"));
    }

    private static final String[] WORDS = {"task", "before", "apart", "together", "put", "cycle"};
    private static final int[] NUMBERS = {4, 2, 2, 2, 2, 1};

    /** The error position of an input, which changes nothing. */
    private static void error(int position, String text) {
        LineBalancer x = withTasks(2, 1);
        x.setRule(0, 999);
        due(-100 - position, read(x, text));
        due(1, x.feed('p'));
        due(2, x.size());
        due("-1 -1", placesOf(x));
        due(999, x.rule(0));
        due(2, x.undo());
        thrown(ELEMENT, x::whyNot);
    }

    /** Throws, and changes nothing but the input. */
    private static void refused(LineBalancer x, String text) {
        String old = whatCommandsSet(x);
        feed(x, text);
        thrown(SUPPORTED, x::read);
        due(old, whatCommandsSet(x));
        due(1, x.feed('p'));
        due(-100, read(x, "u"));
    }

    private static String whatCommandsSet(LineBalancer x) {
        StringBuilder sets = new StringBuilder();
        for (int task = 0; task < x.size(); task++) {
            sets.append(' ').append(x.task(task, 8)).append(' ').append(x.task(task, 9)).append(' ')
                    .append(x.task(task, 10));
        }
        return x.rule(0) + " " + placesOf(x) + sets;
    }

    // ---- Promise 30

    @Says(part = "Promise 30", quote = "Appends a character to the input.")
    static void theCharactersStandInTheirOrder() {
        LineBalancer x = withTasks(2, 1);
        feed(x, "put 1 0");
        due(1, x.read());
        due("-1 0", placesOf(x));
        // the input grows behind what was fed before other calls
        feed(x, "pu");
        x.setModels(2);
        x.undo();
        x.save();
        x.restore();
        feed(x, "t 0 7");
        due(1, x.read());
        due("7 0", placesOf(x));
    }

    @Says(part = "Promise 30", quote = "any character")
    static void everyCharacterIsTaken() {
        LineBalancer x = new LineBalancer();
        char[] signs = {(char) 0, (char) 1, '\n', ' ', (char) 127, (char) 128, (char) 255, (char) 256, (char) 0x7fff,
            (char) 0x8000, (char) 0xd800, (char) 0xffff};
        for (int i = 0; i < signs.length; i++) {
            due(i + 1, x.feed(signs[i]));
        }
        due(-100, x.read());
        for (char sign : signs) {
            due(1, x.feed(sign));
            due(-100, x.read());
            // what looks like a right character in its lower half is none
            feed(x, "cycle 7");
            due(8, x.feed(sign));
            due(-107, x.read());
        }
        for (char sign : "cycle 99".toCharArray()) {
            x.feed((char) (sign + 256));
        }
        due(-100, x.read());
    }

    @Says(part = "Promise 30", quote = "Returns the new length of the input.")
    static void theLengthGoesFrom1To80() {
        LineBalancer x = new LineBalancer();
        for (int round = 0; round < 3; round++) {
            for (int length = 1; length <= 80; length++) {
                due(length, x.feed('x'));
            }
            due(-100, x.read());
        }
        due(1, x.feed('x'));
    }

    @Says(part = "Promise 30", quote = "Throws IllegalStateException if the input has 80 characters")
    static void the81stCharacterIsRefused() {
        LineBalancer x = withTasks(1, 1);
        String text = "put 0 0;put 0 1;put 0 2;put 0 3;put 0 4;put 0 5;put 0 6;put 0 7;put 0 0;put 0 01";
        due(80, text.length());
        feed(x, text);
        thrown(STATE, () -> x.feed(';'));
        thrown(STATE, () -> x.feed('0'));
        due(10, x.read());
        due(1, x.task(0, 5));
        due(1, x.feed(';'));
    }

    // ---- Promise 31

    @Says(part = "Promise 31", quote = "one or more with a semicolon between two of them")
    static void oneToTenCommandsAreRead() {
        LineBalancer x = withTasks(1, 1);
        StringBuilder text = new StringBuilder("put 0 7");
        for (int count = 1; count <= 10; count++) {
            due(count, read(x, text.toString()));
            due(7, x.task(0, 5));
            text.insert(0, "put 0 " + count % 8 + ";");
        }
        error(0, ";");
        error(0, ";put 0 0");
        error(7, "put 0 0put 0 0");
        error(7, "put 0 0 put 0 0");
        error(8, "put 0 0;;put 0 0");
        error(8, "put 0 0; put 0 0");
        error(7, "put 0 0,put 0 0");
    }

    @Says(part = "Promise 31", quote = "in their order")
    static void aCommandSeesWhatTheOnesBeforeHaveDone() {
        LineBalancer x = new LineBalancer();
        due(5, read(x, "cycle 10;task 10 0 0 1;put 0 7;task 0 0 0 1;put 1 7"));
        due("7 7", placesOf(x));
        due(2, read(x, "cycle 20;cycle 30"));
        due(30, x.rule(0));
        due(2, read(x, "apart 0 1;together 0 1"));
        due(2, x.task(0, 10));
        due(2, x.undo());
        refused(x, "task 0 0 0 0;put 3 0");
        due(2, read(x, "task 0 0 0 0;put 2 0"));
        LineBalancer y = new LineBalancer();
        refused(y, "put 0 0;task 1 1 1 1");
        due(2, read(y, "task 1 1 1 1;put 0 0"));
    }

    @Says(part = "Promise 31", quote = "all or none")
    static void theCommandsBeforeARefusedOneAreTakenBack() {
        LineBalancer x = withTasks(3, 1);
        x.before(0, 1);
        refused(x, "task 9 9 9 5;before 1 2;apart 0 1;together 0 2;put 0 0;cycle 99;cycle 9");
        refused(x, "before 1 2;before 0 2;before 2 0");
        refused(x, "put 2 5;put 0 1;put 1 0");
        due(1, x.whyNot());
        due(3, x.undo());
        // none is carried out before an error behind it
        error(38, "task 9 9 9 5;before 0 1;put 0 0;cycle ");
        error(7, "put 0 0:put 0 9");
    }

    @Says(part = "Promise 31", quote = "A command is a word and its numbers, each behind a single blank")
    static void eachNumberIsBehindOneBlank() {
        for (int i = 0; i < WORDS.length; i++) {
            String text = WORDS[i];
            for (int number = 0; number < NUMBERS[i]; number++) {
                // no number behind the blank, a second blank, and no blank at all
                error(text.length(), text);
                error(text.length() + 1, text + " ");
                error(text.length() + 1, text + "  1");
                error(text.length(), text + ";");
                error(text.length(), text + "\t1");
                if (number == 0) {
                    error(text.length(), text + "1");
                }
                text += " 1";
            }
            error(text.length(), text + " ");
            error(text.length(), text + " 1");
            error(0, " " + text);
            error(text.length() + 1, text + "; " + text);
        }
    }

    @Says(part = "Promise 31", quote = "\"task\" and 4 numbers for addTask")
    static void theCommandTask() {
        LineBalancer x = new LineBalancer();
        due(2, read(x, "task 0 0 0 0;task 99 98 97 5"));
        due("99 98 97 5 -1", x.task(1, 0) + " " + x.task(1, 1) + " " + x.task(1, 2) + " " + x.task(1, 3) + " "
                + x.task(1, 5));
        refused(x, "task 100 0 0 0");
        refused(x, "task 0 100 0 0");
        refused(x, "task 0 0 100 0");
        refused(x, "task 0 0 0 6");
        LineBalancer full = withTasks(11, 1);
        refused(full, "task 1 1 1 1;task 1 1 1 1");
        due(1, read(full, "task 1 1 1 1"));
        thrown(SUPPORTED, () -> read(full, "task 1 1 1 1"));
    }

    @Says(part = "Promise 31", quote = "\"before\" and 2 for before")
    static void theCommandBefore() {
        LineBalancer x = withTasks(12, 1);
        due(2, read(x, "before 11 0;before 0 10"));
        due((1 << 11) + 1, x.task(10, 6));
        thrown(SUPPORTED, () -> read(x, "before 10 11"));
        thrown(SUPPORTED, () -> read(x, "before 11 0"));
        thrown(SUPPORTED, () -> read(x, "before 5 5"));
        thrown(SUPPORTED, () -> read(x, "before 0 12"));
        thrown(SUPPORTED, () -> read(x, "before 12 0"));
        due(1, read(x, "before 11 10"));
    }

    @Says(part = "Promise 31", quote = "\"apart\" and \"together\" and 2 for pair")
    static void theCommandsApartAndTogether() {
        for (int kind = 0; kind < 2; kind++) {
            String word = kind == 0 ? "apart" : "together";
            LineBalancer x = withTasks(12, 1);
            x.pair(0, 11, kind == 1);
            due(1, read(x, word + " 11 0"));
            due(kind == 0 ? 1 : 0, x.task(11, 9));
            due(kind == 0 ? 0 : 1, x.task(11, 10));
            due(1, read(x, word + " 0 11"));
            thrown(SUPPORTED, () -> read(x, word + " 11 11"));
            thrown(SUPPORTED, () -> read(x, word + " 0 12"));
            thrown(SUPPORTED, () -> read(x, word + " 12 0"));
            due(2, x.drop(0, 11));
        }
    }

    @Says(part = "Promise 31", quote = "\"put\" and 2 for assign")
    static void theCommandPut() {
        LineBalancer x = withTasks(12, 1);
        due(2, read(x, "put 11 7;put 0 0"));
        due("0 7", x.task(0, 5) + " " + x.task(11, 5));
        thrown(SUPPORTED, () -> read(x, "put 12 0"));
        thrown(SUPPORTED, () -> read(x, "put 0 8"));
        thrown(SUPPORTED, () -> read(x, "put 0 999"));
        thrown(ELEMENT, x::whyNot);
        // there is no number for none
        error(6, "put 0 -1");
    }

    @Says(part = "Promise 31", quote = "\"cycle\" and 1 for the rule 0")
    static void theCommandCycle() {
        LineBalancer x = new LineBalancer();
        due(1, read(x, "cycle 10"));
        due(10, x.rule(0));
        due(1, read(x, "cycle 999"));
        due(999, x.rule(0));
        refused(x, "cycle 9");
        refused(x, "cycle 0");
        due("2 5 0", x.rule(1) + " " + x.rule(2) + " " + x.rule(3));
    }

    @Says(part = "Promise 31", quote = "A number is 1 to 3 digits.")
    static void aNumberHas1To3Digits() {
        LineBalancer x = withTasks(2, 1);
        due(3, read(x, "put 0 1;put 00 02;put 000 003"));
        due(3, x.task(0, 5));
        error(4, "put ");
        error(6, "put 0 ");
        error(7, "put 0000 1");
        error(9, "put 0 0001");
        error(9, "cycle 1000");
        error(9, "cycle 0100");
        error(9, "cycle 99999999999999999999");
        for (String digit : new String[] {"/", ":", "a", "-", "+", ".", "\u0660", "\uff11"}) {
            error(6, "cycle " + digit);
            error(7, "cycle 7" + digit);
            error(8, "cycle 70" + digit);
        }
    }

    @Says(part = "Promise 31", quote = "the position, from 0, of the first character that cannot continue commands")
    static void theErrorIsAtTheFirstWrongCharacter() {
        String text = "task 1 1 1 1;before 0 1;apart 0 1;together 0 1;put 0 0;cycle 60";
        // no sign but a semicolon or, behind fewer than 3 digits, a digit goes on behind a command
        for (int end : new int[] {12, 23, 33, 46, 54, 63}) {
            error(end, text.substring(0, end) + "!");
            error(end, text.substring(0, end) + "z");
        }
        // a wrong sign in place of any other than a letter
        for (int at = 0; at < text.length(); at++) {
            if (text.charAt(at) < 'a') {
                error(at, text.substring(0, at) + "!" + text.substring(at + 1));
                error(at, text.substring(0, at) + "!");
            }
        }
        error(0, "!");
        error(0, "7");
        error(0, "CYCLE 70");
        error(3, "put\n0 0");
    }

    @Says(part = "Promise 31", quote = "or the length of the input if it ends too early")
    static void theErrorIsAtTheEndWhereMoreIsDue() {
        error(0, "");
        String text = "task 1 1 1 1;before 0 1;apart 0 1;together 0 1;put 0 0;cycle 60";
        for (int length = 1; length < text.length(); length++) {
            String start = text.substring(0, length);
            boolean isWhole = start.matches(".*(task( \\d){4}|(before|apart|together|put)( \\d){2}|cycle \\d+)");
            boolean isWord = start.matches("(.*;)?[a-z]+") && !start.matches("(.*;)?(" + String.join("|", WORDS) + ")");
            if (!isWhole && !isWord) {
                error(length, start);
            }
        }
        error(8, "put 0 0;");
        // an input that is full ends too
        error(80, "put 0 0;".repeat(10));
        error(80, "put 0 0;".repeat(9) + "put 000 ");
    }

    @Says(part = "Promise 31", quote = "a word, which is a sequence of letters from a to z as long as possible, "
            + "that is none of these is an error at its first letter")
    static void anUnknownWordIsAnErrorAtItsFirstLetter() {
        for (String word : WORDS) {
            error(0, word + "s 1 1 1 1");
            error(0, "a" + word + " 1 1 1 1");
            for (int at = 0; at < word.length(); at++) {
                error(0, word.substring(0, at) + "x" + word.substring(at + 1) + " 1 1 1 1");
            }
            error(0, word + word + " 1 1 1 1");
            error(0, word.substring(1) + " 1 1 1 1");
            error(0, word.substring(0, word.length() - 1) + " 1 1 1 1");
            error(0, word + "a");
            error(0, word + "z");
            error(8, "put 0 0;" + word + "x 1 1 1 1");
            // what is no letter from a to z ends the word
            error(word.length(), word + "X 1 1 1 1");
            error(word.length(), word + "`");
            error(word.length(), word + "{");
            error(word.length(), word + "\u00e9");
            error(0, word.substring(0, 2) + "X");
        }
        error(0, "a");
        error(0, "z");
        error(0, "pux 0 0");
        error(0, "drop 0 1");
        error(0, "x".repeat(80));
        error(0, "put".repeat(26));
    }

    @Says(part = "Promise 31", quote = "also at the end of the input")
    static void thePartOfAWordAtTheEndIsAnErrorAtItsFirstLetter() {
        for (String word : WORDS) {
            for (int length = 1; length < word.length(); length++) {
                error(0, word.substring(0, length));
                error(9, "cycle 70;" + word.substring(0, length));
            }
            error(word.length(), word);
            error(9 + word.length(), "cycle 70;" + word);
        }
        error(79, "cycle 70;".repeat(7) + "put 0 0;".repeat(2) + "p");
        error(72, "put 0 0;".repeat(9) + "together".substring(0, 7));
        error(80, "put 0 0;".repeat(9) + "together");
    }

    @Says(part = "Promise 31", quote = "The input is empty afterwards, also if an exception is thrown.")
    static void theInputIsEmptyAfterEachRead() {
        LineBalancer x = withTasks(1, 61);
        for (String text : new String[] {"cycle 60", "cycle 60!", "cycle", ""}) {
            read(x, text);
            due(1, x.feed('c'));
            due(2, x.feed('y'));
            due(1, read(x, "cle 60"));
        }
        for (String text : new String[] {"cycle 9", "put 0 0", "put 1 0"}) {
            thrown(SUPPORTED, () -> read(x, text));
            due(1, x.feed('c'));
            due(-100, x.read());
            due(-100, x.read());
        }
        // nothing of a longer input is left behind a shorter one
        due(-100, read(x, "cyclecycle 70"));
        due(-105, read(x, "cycle"));
        due(-106, read(x, "cycle "));
    }

    @Says(part = "Promise 31", quote = "Returns the number of commands, or -100 minus the error position.")
    static void readReturnsFrom1To10AndFromMinus100ToMinus180() {
        LineBalancer x = withTasks(1, 1);
        due(1, read(x, "put 0 0"));
        due(2, read(x, "put 0 0;put 0 0"));
        due(10, read(x, "put 0 0;".repeat(9) + "put 0 0"));
        due(-100, x.read());
        due(-103, read(x, "put"));
        due(-179, read(x, "put 0 0;".repeat(9) + "put 000!"));
        due(-180, read(x, "put 0 0;".repeat(10)));
    }

    @Says(part = "Promise 31", quote = "Throws UnsupportedOperationException if the method of a command would throw an "
            + "exception")
    static void whateverTheMethodThrowsReadThrowsOne() {
        for (String text : new String[] {"task 100 0 0 0", "before 0 2", "before 0 0", "before 0 1", "before 1 0",
            "apart 2 0", "apart 0 0", "together 0 2", "together 1 1", "put 2 0", "put 0 8", "put 0 0", "cycle 9"}) {
            LineBalancer x = withTasks(2, 61);
            x.before(0, 1);
            refused(x, text);
        }
        refused(withTasks(12, 1), "task 0 0 0 0");
    }

    @Says(part = "Promise 31", quote = "if this is assign and the station refuses the task, the reason is kept "
            + "for whyNot")
    static void theReasonOfARefusedPutIsKept() {
        String[] texts = {"before 0 1;put 0 5;put 1 4", "before 0 1;put 1 4;put 0 5", "apart 0 1;put 0 5;put 1 5",
            "together 0 1;put 0 5;put 1 4", "put 0 5;put 1 5;put 2 5", "put 2 7"};
        for (int i = 0; i < texts.length; i++) {
            LineBalancer x = withTimes(20, 20, 61);
            x.setRule(2, i == 4 ? 2 : 5);
            for (int task = 0; task < 3; task++) {
                x.setTool(task, task + 1);
            }
            refused(x, texts[i]);
            due(i + 1, x.whyNot());
        }
    }

    @Says(part = "Promise 31", quote = "if this is assign and the station refuses the task")
    static void noOtherCommandKeepsAReason() {
        LineBalancer x = withTasks(1, 61);
        refused(x, "cycle 9;put 0 0");
        refused(x, "put 0 8");
        refused(x, "put 1 0");
        due(-107, read(x, "put 0 0."));
        thrown(ELEMENT, x::whyNot);
        refused(x, "put 0 0;cycle 9");
        due(6, x.whyNot());
        refused(x, "cycle 9");
        due(6, x.whyNot());
    }
}
