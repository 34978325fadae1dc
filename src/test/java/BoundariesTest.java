import java.io.IOException;
import java.lang.reflect.InvocationTargetException;
import java.lang.reflect.Method;
import java.lang.reflect.Modifier;
import java.nio.file.Files;
import java.nio.file.Path;
import java.util.ArrayList;
import java.util.Arrays;
import java.util.List;
import java.util.Map;
import java.util.Set;
import java.util.TreeMap;
import java.util.TreeSet;

/**
 * For each sentence of the document that names a boundary case, and for each one of its description, a test of its own,
 * with the promise and the sentence.
 *
 * <p>A test is a script, a call a line: "flip 0 15 = 13" or "flip 0 16 throws IllegalArgumentException"; a call without
 * an answer must only return. "type T" appends the characters of T, "put T" stores it as well, {n} is n symbols,
 * "3 times C" makes a call three times, with the answer of the last one, and "new" goes on with a new object.
 *
 * <p>Behind each refused call the state is compared with that of an object that was not asked it, and at the end with
 * that of an object that was asked no question and no refused call at all.
 */
public final class BoundariesTest {
    private static final int MAX_CALLS = 512;
    private static final Path DOCUMENT = Path.of("..", "shared", "DOC.md");

    private static final String MIN = String.valueOf(Integer.MIN_VALUE);
    private static final String MAX = String.valueOf(Integer.MAX_VALUE);
    private static final String ARGUMENT = " throws IllegalArgumentException\n";
    private static final String STATE = " throws IllegalStateException\n";
    private static final String BOUNDS = " throws IndexOutOfBoundsException\n";
    private static final String NONE = " throws NoSuchElementException\n";

    /** Eight files of three blocks in all 240 cells. */
    private static final String FULL = "8 times put 2*1:{24} = 7\n";
    private static final String FIRST_THROWN =
            "If several exceptions apply, the one that is documented first is thrown.";

    /** The words before the sentences of the description, which tell nothing. */
    private static final Set<String> HEADS = Set.of("Symbols.", "Blocks.", "Files.", "Cells.", "Storing.", "Decoding.",
            "Damage.", "Days and age.", "Scrubbing.", "Accounts.", "Report.", "Text.", "History.", "Exceptions.",
            "More precisely.");

    private static final Set<String> CHANGING = Set.of("clear", "append", "store", "remove", "flip", "erase", "burst",
            "advance", "scrub", "repair", "undo", "save", "restore");

    private static final Map<String, Method> METHODS = methods();
    private static final Map<Integer, List<String>> QUOTES = new TreeMap<>();
    private static int promise = 0;
    private static String quote = "";
    private static int tests = 0;
    private static int asked = 0;
    private static int wrong = 0;

    private record Call(String name, Object[] arguments) {
        @Override
        public String toString() {
            return name + Arrays.toString(arguments);
        }
    }

    // ---- asking

    private static void fault(String text) {
        wrong++;
        System.out.println("promise " + promise + ", \"" + quote + "\": " + text);
    }

    private static Map<String, Method> methods() {
        Map<String, Method> methods = new TreeMap<>();
        for (Method method : InterleavedArchive.class.getDeclaredMethods()) {
            if (Modifier.isPublic(method.getModifiers())) {
                methods.put(method.getName(), method);
            }
        }
        return methods;
    }

    private static Call call(String name, int... arguments) {
        Object[] values = new Object[arguments.length];
        for (int i = 0; i < arguments.length; i++) {
            values[i] = name.equals("append") ? (Object) (char) arguments[i] : (Object) arguments[i];
        }
        return new Call(name, values);
    }

    private static String answer(InterleavedArchive archive, Call call) {
        try {
            return String.valueOf(METHODS.get(call.name).invoke(archive, call.arguments));
        } catch (InvocationTargetException e) {
            return "throws " + e.getCause().getClass().getSimpleName();
        } catch (IllegalAccessException e) {
            throw new AssertionError(e);
        }
    }

    private static List<String> answersBehind(List<Call> past, List<Call> questions) {
        InterleavedArchive archive = new InterleavedArchive();
        for (Call call : past) {
            answer(archive, call);
        }
        List<String> answers = new ArrayList<>();
        for (Call question : questions) {
            answers.add(question + " " + answer(archive, question));
        }
        return answers;
    }

    // ---- the whole state, by what can be asked of it

    private static void addNumbers(List<Call> calls) {
        for (String name : new String[] {"files", "room", "day", "needed", "nextToCheck", "health"}) {
            calls.add(call(name));
        }
        calls.add(call("wrong", -1));
        calls.add(call("erased", -1));
        for (int account = 0; account < 8; account++) {
            calls.add(call("account", account));
        }
    }

    private static List<Call> ofNumbers() {
        List<Call> calls = new ArrayList<>();
        addNumbers(calls);
        calls.add(call("reportLines"));
        for (int line = 0; line < 26; line++) {
            for (int what = 0; what < 4; what++) {
                calls.add(call("report", line, what));
            }
        }
        return calls;
    }

    private static List<Call> ofFiles() {
        List<Call> calls = new ArrayList<>();
        for (int file = 0; file < 8; file++) {
            for (int what = 0; what < 7; what++) {
                calls.add(call("file", file, what));
            }
            for (String name : new String[] {"wrong", "erased", "condition", "undecodable"}) {
                calls.add(call(name, file));
            }
            for (int block = 0; block < 4; block++) {
                calls.add(call("checked", file, block));
            }
        }
        return calls;
    }

    private static List<Call> ofCells(String name) {
        List<Call> calls = new ArrayList<>();
        for (int cell = 0; cell < 240; cell++) {
            calls.add(call(name, cell));
        }
        return calls;
    }

    private static List<Call> ofHistory() {
        List<Call> calls = new ArrayList<>();
        for (int i = 0; i < 7; i++) {
            calls.add(call("undo"));
            addNumbers(calls);
        }
        return calls;
    }

    private static List<Call> ofSaved() {
        List<Call> calls = new ArrayList<>();
        calls.add(call("restore"));
        addNumbers(calls);
        return calls;
    }

    private static List<Call> ofInput() {
        List<Call> calls = new ArrayList<>();
        calls.add(call("store"));
        calls.add(call("errorPosition"));
        for (int file = 0; file < 8; file++) {
            calls.add(call("file", file, 3));
        }
        return calls;
    }

    private static List<List<Call>> probes(boolean withInput, boolean withErrorPosition) {
        List<List<Call>> all = new ArrayList<>(List.of(ofNumbers(), ofFiles(), ofCells("symbol"), ofCells("isErased"),
                ofHistory(), ofSaved()));
        if (withInput) {
            all.add(List.of(call("append", 'x')));
            all.add(ofInput());
        }
        if (withErrorPosition) {
            all.add(List.of(call("errorPosition")));
        }
        return all;
    }

    private static void dueSame(String what, List<Call> one, List<Call> other, List<List<Call>> probes) {
        for (List<Call> probe : probes) {
            int free = MAX_CALLS - Math.max(one.size(), other.size());
            List<Call> part = probe.subList(0, Math.min(free, probe.size()));
            List<String> got = answersBehind(one, part);
            List<String> want = answersBehind(other, part);
            for (int i = 0; i < got.size(); i++) {
                if (!got.get(i).equals(want.get(i))) {
                    fault(what + " is no longer as it was: " + got.get(i) + ", before " + want.get(i));
                    return;
                }
            }
        }
    }

    // ---- scripts

    private static String symbols(int count) {
        StringBuilder text = new StringBuilder();
        for (int i = 0; i < count; i++) {
            text.append("0123456789abcdef".charAt((i * 7 + 3) % 16));
        }
        return text.toString();
    }

    private static String withSymbols(String text) {
        int open = text.indexOf('{');
        int close = text.indexOf('}');
        if (open < 0 || close < open) {
            return text;
        }
        return withSymbols(text.substring(0, open) + symbols(Integer.parseInt(text.substring(open + 1, close)))
                + text.substring(close + 1));
    }

    private static List<Call> callsOf(String words) {
        if (words.equals("put")) {
            return List.of(call("store"));
        }
        if (words.startsWith("type ") || words.startsWith("put ")) {
            List<Call> calls = new ArrayList<>();
            for (char c : withSymbols(words.substring(words.indexOf(' ') + 1)).toCharArray()) {
                calls.add(call("append", c));
            }
            if (words.startsWith("put ")) {
                calls.add(call("store"));
            }
            return calls;
        }
        String[] parts = words.split(" ");
        int[] arguments = new int[parts.length - 1];
        for (int i = 0; i < arguments.length; i++) {
            arguments[i] = Integer.parseInt(parts[i + 1]);
        }
        return List.of(call(parts[0], arguments));
    }

    /** A share "239/240" is compared as the double that it makes. */
    private static String shareOr(String want) {
        int slash = want.indexOf('/');
        if (slash < 0) {
            return want;
        }
        double part = Integer.parseInt(want.substring(0, slash));
        return String.valueOf(part / Integer.parseInt(want.substring(slash + 1)));
    }

    /** One object, the calls that it was asked and of these the ones that may have changed it. */
    private static final class Run {
        private InterleavedArchive archive = new InterleavedArchive();
        private List<Call> past = new ArrayList<>();
        private List<Call> changing = new ArrayList<>();

        private void end() {
            if (past.size() > MAX_CALLS) {
                fault("the script makes " + past.size() + " calls");
            }
            dueSame("the state behind questions and refused calls", past, changing, probes(true, true));
            archive = new InterleavedArchive();
            past = new ArrayList<>();
            changing = new ArrayList<>();
        }

        private String ask(Call call) {
            asked++;
            String got = answer(archive, call);
            List<Call> before = List.copyOf(past);
            past.add(call);
            boolean thrown = got.startsWith("throws");
            boolean store = call.name.equals("store");
            if (CHANGING.contains(call.name) && (!thrown || store)) {
                changing.add(call);
            }
            if (thrown) {
                boolean noText = store && got.equals("throws IllegalArgumentException");
                dueSame("the state behind " + call, past, before, probes(!store, !noText));
            }
            return got;
        }

        private void line(String line) {
            int thrown = line.lastIndexOf(" throws ");
            int equals = line.lastIndexOf(" = ");
            int end = thrown >= 0 ? thrown : equals >= 0 ? equals : line.length();
            String want = thrown >= 0 ? line.substring(thrown + 1) : equals >= 0 ? line.substring(equals + 3) : "";
            String words = line.substring(0, end);
            int times = 1;
            if (words.matches("\\d+ times .*")) {
                times = Integer.parseInt(words.substring(0, words.indexOf(' ')));
                words = words.substring(words.indexOf(" times ") + 7);
            }
            String got = "";
            for (int i = 0; i < times; i++) {
                for (Call call : callsOf(words)) {
                    if (got.startsWith("throws")) {
                        fault(line + ": too early " + got);
                    }
                    got = ask(call);
                }
            }
            if (want.isEmpty() ? got.startsWith("throws") : !got.equals(shareOr(want))) {
                fault(line + ": got " + got);
            }
        }
    }

    /** Tests a sentence of the document, or a part of one, for a promise. */
    private static void sentence(int number, String words, String... scripts) {
        promise = number;
        quote = words;
        tests++;
        QUOTES.computeIfAbsent(number, key -> new ArrayList<>()).add(words);
        Run run = new Run();
        for (String script : scripts) {
            for (String line : script.split("\n")) {
                if (line.equals("new")) {
                    run.end();
                } else if (!line.isEmpty()) {
                    run.line(line);
                }
            }
        }
        run.end();
    }

    /** Returns a call with each of some numbers in the place of #, all refused with the same exception. */
    private static String each(String call, String thrown, String... numbers) {
        StringBuilder script = new StringBuilder();
        for (String number : numbers) {
            script.append(call.replace("#", number)).append(thrown);
        }
        return script.toString();
    }

    private static String eachFrom(int from, int to, String line) {
        StringBuilder script = new StringBuilder();
        for (int i = from; i <= to; i++) {
            script.append(line.replace("#", String.valueOf(i))).append('\n');
        }
        return script.toString();
    }

    // ---- edges that many calls share

    private static final String NO_FILE = "Throws IndexOutOfBoundsException if there is no such file";
    private static final String NO_BLOCK = "Throws IndexOutOfBoundsException if there is no such file or block";
    private static final String NO_CELL = "Throws IndexOutOfBoundsException if there is no such cell";
    private static final String BLOCK_FROM = "block: the number of the block in the file, from 0";
    private static final String CELL_RANGE = "cell: the number of the cell, 0 to 239";

    /** Asks a call for file # in an archive without files, and in one with the numbers 0 to 7 but for 3. */
    private static void noFile(int number, String words, String call, String ofFirst, String ofLast) {
        sentence(number, words,
                each(call, BOUNDS, "0", "1", "7", "-1", "8", MIN, MAX),
                eachFrom(1, 8, "put 1*1:#"),
                "remove 3 = 7\n",
                each(call, BOUNDS, "3", "-1", "8", MIN, MAX),
                call.replace("#", "0") + " = " + ofFirst + "\n",
                call.replace("#", "7") + " = " + ofLast + "\n");
    }

    /** As noFile, but the number -1 is allowed. */
    private static void noFileOrAll(int number, String words, String call) {
        sentence(number, words,
                each(call, BOUNDS, "0", "7", "-2", "8", MIN, MAX),
                call.replace("#", "-1") + " = 0\n",
                eachFrom(1, 8, "put 1*1:#"),
                "remove 3 = 7\n",
                each(call, BOUNDS, "3", "-2", "8", MIN, MAX),
                eachFrom(-1, 2, call + " = 0"),
                eachFrom(4, 7, call + " = 0"));
    }

    private static String at(String call, int file, int block) {
        return call.replace("#", String.valueOf(file)).replace("@", String.valueOf(block));
    }

    /** Asks a call for block @ of file #: files of 4, 2 and 1 blocks. */
    private static void noBlock(int number, String words, String call, String answer) {
        StringBuilder script = new StringBuilder(at(call, 0, 0) + BOUNDS);
        script.append("put 1*1:" + "0".repeat(32) + " = 0\nput 1*1:000000000 = 1\nput 1*1:0 = 2\n");
        for (int[] right : new int[][] {{0, 0}, {0, 3}, {1, 0}, {1, 1}, {2, 0}}) {
            script.append(at(call, right[0], right[1])).append(" = ").append(answer).append('\n');
        }
        for (int[] beyond : new int[][] {{0, 4}, {1, 2}, {2, 1}, {3, 0}, {8, 0}, {-1, 0}, {0, -1}, {2, -1}}) {
            script.append(at(call, beyond[0], beyond[1])).append(BOUNDS);
        }
        for (int far : new int[] {Integer.MIN_VALUE, Integer.MAX_VALUE}) {
            script.append(at(call, far, 0)).append(BOUNDS).append(at(call, 0, far)).append(BOUNDS);
        }
        script.append("remove 1 = 2\n").append(at(call, 1, 0)).append(BOUNDS);
        script.append(at(call, 2, 0)).append(" = ").append(answer).append('\n');
        sentence(number, words, script.toString());
    }

    private static void blockFrom(int number, String call, String answer) {
        sentence(number, BLOCK_FROM, "put 1*1:" + "0".repeat(32) + " = 0\n", at(call, 0, -1) + BOUNDS,
                at(call, 0, 0) + " = " + answer + "\n", at(call, 0, 3) + " = " + answer + "\n",
                at(call, 0, 4) + BOUNDS);
    }

    /** Asks a call for cell #: the first one and the last one, in an empty and in a full archive. */
    private static void noCell(int number, String words, String call, String... answers) {
        String beyond = each(call, BOUNDS, "-1", "240", MIN, MAX);
        String first = call.replace("#", "0");
        String last = call.replace("#", "239");
        sentence(number, words,
                beyond + first + answers[0] + "\n" + last + answers[1] + "\n" + beyond,
                "new\n",
                FULL + beyond + first + answers[2] + "\n" + last + answers[3] + "\n" + beyond);
    }

    // ---- files

    private static void promise1() {
        sentence(1, "Creates an archive without files.", """
                files = 0
                room = 240
                day = 0
                needed = 0
                reportLines = 0
                wrong -1 = 0
                erased -1 = 0
                owner 0 = -1
                owner 239 = -1
                file 0 0 throws IndexOutOfBoundsException
                placeOf 0 throws NoSuchElementException
                nextToCheck throws NoSuchElementException
                errorPosition throws NoSuchElementException
                report 0 0 throws IndexOutOfBoundsException
                health throws ArithmeticException
                undo throws NoSuchElementException
                restore throws IllegalStateException
                put 1*1:1 = 0
                """, eachFrom(0, 6, "account # = 0"), "account 7 = 9\n");
        sentence(1, "A cell has a symbol, at first 0, and it is erased or not, at first not.",
                eachFrom(0, 239, "symbol # = 0"), eachFrom(0, 239, "isErased # = false"));
        sentence(1, "There are 240 cells, numbered from 0.", """
                symbol -1 throws IndexOutOfBoundsException
                symbol 0 = 0
                symbol 239 = 0
                symbol 240 throws IndexOutOfBoundsException
                burst 0 240 1 = 0
                wrong -1 = 240
                """);
        sentence(1, "There is a day number, at first 0.", """
                day = 0
                put 1*1:1
                checked 0 0 = 0
                advance 1 = 1
                """);
        sentence(1, "An object is used for at most 512 calls after it has been made", """
                put 2*1:1 = 0
                503 times flip 0 1 = 3
                flip 0 1 = 2
                wrong 0 = 0
                undo = 5
                """);
    }

    private static void promise2() {
        sentence(2, "Returns the number of files that there were.", """
                clear = 0
                put 1*1:1 = 0
                clear = 1
                clear = 0
                """, FULL, """
                clear = 8
                clear = 0
                files = 0
                room = 240
                """);
        sentence(2, "Removes all files, makes all cells and counts what they are at first, and the day 0.", FULL, """
                advance 100
                flip 0 15
                burst 10 2 0
                burst 20 3 0
                burst 30 2 0
                scrub 8 = 1
                scrub 200 = 177
                account 0 = 20
                account 1 = 3
                account 2 = 1
                account 3 = 1
                account 4 = 1
                account 5 = 4
                account 6 = 30
                account 7 = 245
                burst 0 240 5
                burst 0 240 0
                clear = 8
                files = 0
                room = 240
                day = 0
                needed = 0
                wrong -1 = 0
                erased -1 = 0
                health throws ArithmeticException
                nextToCheck throws NoSuchElementException
                """, eachFrom(0, 7, "account # = 0"), eachFrom(0, 7, "file # 0 throws IndexOutOfBoundsException"), """
                put 1*1:1 = 0
                file 0 5 = 0
                checked 0 0 = 0
                new
                burst 0 240 9 = 0
                burst 0 240 0 = 0
                100 times advance 100 = 10000
                clear = 0
                day = 0
                erased -1 = 0
                wrong -1 = 0
                """, eachFrom(0, 239, "symbol # = 0"), "advance 100 = 100\n");
        sentence(2, "The report, the input, the error position and what was saved stay.", FULL, """
                advance 1
                scrub 200 = 176
                save = 8
                put 1*5:1 throws IllegalArgumentException
                60 times append 97 = 60
                clear = 8
                reportLines = 24
                report 23 0 = 7
                report 23 1 = 2
                errorPosition = 2
                append 97 throws IllegalStateException
                restore = 8
                files = 255
                day = 1
                new
                clear = 0
                reportLines = 0
                errorPosition throws NoSuchElementException
                restore throws IllegalStateException
                append 97 = 1
                """);
        sentence(2, "clear and restore forget all of them.", """
                clear = 0
                undo throws NoSuchElementException
                6 times advance 1 = 6
                clear = 0
                undo throws NoSuchElementException
                day = 0
                advance 2 = 2
                undo = 0
                day = 0
                undo throws NoSuchElementException
                """);
    }

    private static void promise3() {
        sentence(3, "character: the character, with a code from 32 to 126", """
                append 31 throws IllegalArgumentException
                append 32 = 1
                append 126 = 2
                append 127 throws IllegalArgumentException
                append 33 = 3
                append 125 = 4
                """);
        sentence(3, "Throws IllegalArgumentException if the character code is out of range",
                each("append #", ARGUMENT, "0", "10", "31", "127", "128", "255", "304", "65535"), "append 49 = 1\n",
                each("append #", ARGUMENT, "0", "31", "127", "304", "65535"), "append 42 = 2\ntype 1:7\nstore = 0\n");
        sentence(3, "Throws IllegalStateException if the input has 60 characters", """
                59 times append 49 = 59
                append 50 = 60
                append 51 throws IllegalStateException
                append 32 throws IllegalStateException
                append 126 throws IllegalStateException
                store throws IllegalArgumentException
                append 49 = 1
                """);
        sentence(3, "The input is a buffer of at most 60 characters.", """
                type 1*1:
                56 times append 48 = 60
                append 48 throws IllegalStateException
                save = 0
                restore = 0
                append 48 throws IllegalStateException
                advance 1
                undo = 0
                append 48 throws IllegalStateException
                clear = 0
                append 48 throws IllegalStateException
                store throws IllegalArgumentException
                errorPosition = 36
                60 times append 48 = 60
                append 48 throws IllegalStateException
                """);
        sentence(3, "Returns the new length of the input.", """
                append 49 = 1
                append 42 = 2
                58 times append 49 = 60
                store throws IllegalArgumentException
                append 49 = 1
                """);
        sentence(3, FIRST_THROWN, "60 times append 49 = 60\n",
                each("append #", ARGUMENT, "0", "31", "127", "65535"), "append 32" + STATE, "append 126" + STATE);
    }

    private static void storeTexts() {
        sentence(4, "the number r of check symbols, a digit from 1 to 6", """
                put 0*1:1 throws IllegalArgumentException
                errorPosition = 0
                put 1*1:1 = 0
                file 0 1 = 1
                put 7*1:1 throws IllegalArgumentException
                put /*1:1 throws IllegalArgumentException
                put :*1:1 throws IllegalArgumentException
                put a*1:1 throws IllegalArgumentException
                errorPosition = 0
                put 6*1:1 = 1
                file 1 1 = 6
                """);
        sentence(4, "an asterisk", """
                put 1)1:1 throws IllegalArgumentException
                errorPosition = 1
                put 1+1:1 throws IllegalArgumentException
                errorPosition = 1
                put 1*1:1 = 0
                """);
        sentence(4, "the depth, a digit from 1 to 4", """
                put 1*0:1 throws IllegalArgumentException
                errorPosition = 2
                put 1*1:1 = 0
                file 0 2 = 1
                put 1*5:1 throws IllegalArgumentException
                put 1*/:1 throws IllegalArgumentException
                put 1*::1 throws IllegalArgumentException
                errorPosition = 2
                put 1*4:1 = 1
                file 1 2 = 4
                """);
        sentence(4, "a colon", """
                put 1*191 throws IllegalArgumentException
                errorPosition = 3
                put 1*1;1 throws IllegalArgumentException
                errorPosition = 3
                put 1*1:1 = 0
                """);
        sentence(4, "1 to 32 symbols", """
                put 1*1: throws IllegalArgumentException
                errorPosition = 4
                put 1*1:0 = 0
                file 0 0 = 1
                put 1*1:{33} throws IllegalArgumentException
                errorPosition = 36
                put 1*1:{32} = 1
                file 1 0 = 32
                files = 3
                """);
        sentence(4, "each one a character from 0 to 9 or from a to f for 0 to 15", """
                put 1*1:09af = 0
                read 0 0 = 0
                read 0 1 = 9
                read 0 2 = 10
                read 0 3 = 15
                """, each("put 1*1:0#", ARGUMENT + "errorPosition = 5\n", "/", ":", "`", "g", "@", "A", "F", "~", " "),
                "files = 1\n");
    }

    private static void storeNumbers() {
        sentence(4, "There are at most 8 files, numbered from 0; a new file gets the lowest number that is free.",
                eachFrom(0, 7, "put 1*1:1 = #"), """
                put 1*1:1 throws IllegalStateException
                files = 255
                remove 7 = 7
                put 1*1:1 = 7
                remove 5 = 7
                remove 0 = 6
                put 1*1:1 = 0
                put 1*1:1 = 5
                put 1*1:1 throws IllegalStateException
                """);
        sentence(4, "A file has 1 to 32 symbols, a number r of check symbols from 1 to 6, a depth from 1 to 4, and a "
                + "seal.",
                """
                put 1*1:0 = 0
                put 6*4:{32} = 1
                file 0 0 = 1
                file 0 1 = 1
                file 0 2 = 1
                file 0 3 = 17
                file 1 0 = 32
                file 1 1 = 6
                file 1 2 = 4
                put 0*1:0 throws IllegalArgumentException
                put 7*1:0 throws IllegalArgumentException
                put 1*0:0 throws IllegalArgumentException
                put 1*5:0 throws IllegalArgumentException
                put 1*1: throws IllegalArgumentException
                put 1*1:{33} throws IllegalArgumentException
                """);
        sentence(4, "It has as many blocks as needed for 8 symbols in each, numbered from 0; data symbols that are "
                + "missing in the last one are 0.", """
                burst 0 240 7
                put 1*1:{8} = 0
                put 1*1:{9} = 1
                put 1*1:{16} = 2
                put 1*1:{17} = 3
                put 1*1:{24} = 4
                put 1*1:{25} = 5
                put 1*1:{32} = 6
                put 1*1:1 = 7
                file 0 4 = 1
                file 1 4 = 2
                file 2 4 = 2
                file 3 4 = 3
                file 4 4 = 3
                file 5 4 = 4
                file 6 4 = 4
                file 7 4 = 1
                found 0 0 8 = 4
                found 1 1 1 = 11
                found 1 1 2 = 0
                found 1 1 8 = 0
                symbol 26 = 0
                found 7 0 1 = 1
                found 7 0 2 = 0
                """);
        sentence(4, "Returns the number of the file.", eachFrom(0, 7, "put 2*1:{24} = #"), "files = 255\n");
    }

    private static void storeAreas() {
        sentence(4, "a new file gets the area with the lowest first cell in which no cell belongs to a file.", """
                put 6*1:1 = 0
                put 1*1:1 = 1
                put 5*1:1 = 2
                put 1*1:2 = 3
                file 3 5 = 36
                remove 0 = 3
                remove 2 = 2
                put 6*1:3 = 0
                file 0 5 = 0
                put 5*1:3 = 2
                file 2 5 = 23
                remove 2 = 3
                put 6*1:4 = 2
                file 2 5 = 45
                put 4*1:5 = 4
                file 4 5 = 23
                """);
        sentence(4, "An area consists of cells that follow one another.", """
                put 1*1:1 = 0
                4 times put 6*1:{32} = 4
                file 4 5 = 177
                remove 0 = 4
                put 2*1:1 throws IllegalStateException
                put 1*1:2 = 0
                file 0 5 = 0
                put 1*1:2 throws IllegalStateException
                """);
        sentence(4, "Throws IllegalStateException if there are 8 files, or no area for this one", """
                8 times put 1*1:1 = 7
                put 1*1:1 throws IllegalStateException
                remove 4 = 7
                put 1*1:1 = 4
                new
                3 times put 6*1:{32} = 2
                put 4*1:{32} = 3
                put 3*1:1 = 4
                room = 13
                put 6*1:1 throws IllegalStateException
                put 5*1:1 = 5
                file 5 5 = 227
                room = 0
                put 1*1:1 throws IllegalStateException
                new
                3 times put 6*4:{32} = 2
                put 1*1:{24} = 3
                put 3*1:{32} = 4
                room = 1
                put 1*1:1 throws IllegalStateException
                errorPosition throws NoSuchElementException
                """, "new\n", FULL, "put 1*1:1" + STATE);
        sentence(4, "All cells of a new file are written.", """
                burst 0 240 5 = 0
                burst 0 240 0 = 0
                put 1*1:0 = 0
                wrong 0 = 0
                erased 0 = 0
                wrong -1 = 231
                erased -1 = 231
                isErased 0 = false
                isErased 8 = false
                isErased 9 = true
                symbol 8 = 0
                symbol 9 = 5
                account 7 = 9
                """);
        sentence(4, "To write a symbol to a cell makes it the symbol of the cell, and the cell is not erased any more.",
                "burst 0 240 15\nburst 0 240 0\n", FULL, """
                erased -1 = 0
                wrong -1 = 0
                symbol 0 = 0
                symbol 239 = 4
                account 7 = 240
                health = 240/240
                """);
        sentence(4, "A block has a number r of check symbols, from 1 to 6, at the positions 0 to r - 1, and 8 data "
                + "symbols at the positions r to r + 7.", """
                put 1*1:12345678 = 0
                symbol 0 = 8
                symbol 1 = 1
                symbol 8 = 8
                put 6*1:12345678 = 1
                symbol 15 = 1
                symbol 22 = 8
                file 0 6 = 9
                file 1 6 = 14
                """);
    }

    private static void promise4() {
        storeTexts();
        storeNumbers();
        storeAreas();
        sentence(4, "The input is empty afterwards, whatever happens.", """
                put 1*1:1 = 0
                append 49 = 1
                store throws IllegalArgumentException
                append 49 = 1
                type *1:2
                store = 1
                6 times put 1*1:1 = 7
                put 1*1:1 throws IllegalStateException
                append 49 = 1
                type *1:1
                store throws IllegalStateException
                store throws IllegalArgumentException
                errorPosition = 0
                new
                4 times put 6*1:{32} = 3
                put 1*1:{16} throws IllegalStateException
                append 49 = 1
                type *1:1
                store = 4
                append 49 = 1
                new
                60 times append 49 = 60
                store throws IllegalArgumentException
                append 49 = 1
                """);
        sentence(4, "Throws IllegalArgumentException if the input is not a text of this kind; the error position is "
                + "then kept for errorPosition", """
                store throws IllegalArgumentException
                errorPosition = 0
                put 1*1 throws IllegalArgumentException
                errorPosition = 3
                put 1*1:{32}0 throws IllegalArgumentException
                errorPosition = 36
                put 1*1:{32} = 0
                errorPosition = 36
                put 1*1:f = 1
                put 1*1:1  throws IllegalArgumentException
                errorPosition = 5
                put  1*1:1 throws IllegalArgumentException
                errorPosition = 0
                files = 3
                """);
        sentence(4, FIRST_THROWN, """
                8 times put 1*1:1 = 7
                put 1*1:g throws IllegalArgumentException
                errorPosition = 4
                store throws IllegalArgumentException
                errorPosition = 0
                """, "new\n", FULL, """
                put 1*1:1g throws IllegalArgumentException
                errorPosition = 5
                put 1*1:1 throws IllegalStateException
                errorPosition = 5
                """);
    }

    private static void promise5() {
        sentence(5, "The error position of a text that is not like this is the smallest index k such that no text of "
                + "this kind starts with the first k + 1 characters of it", """
                put 7*1:1 throws IllegalArgumentException
                errorPosition = 0
                put 1:1:1 throws IllegalArgumentException
                errorPosition = 1
                put 1*5:1 throws IllegalArgumentException
                errorPosition = 2
                put 1*1*1 throws IllegalArgumentException
                errorPosition = 3
                put 1*1:g throws IllegalArgumentException
                errorPosition = 4
                put 1*1:{31}g throws IllegalArgumentException
                errorPosition = 35
                put 1*1:{32}g throws IllegalArgumentException
                errorPosition = 36
                put 1*1:{32}0 throws IllegalArgumentException
                errorPosition = 36
                put 1*1:{32}{24} throws IllegalArgumentException
                errorPosition = 36
                put 1*1:0g{32} throws IllegalArgumentException
                errorPosition = 5
                put x*9;g throws IllegalArgumentException
                errorPosition = 0
                """);
        sentence(5, "if there is no such index, it is the length of the text.", """
                store throws IllegalArgumentException
                errorPosition = 0
                put 6 throws IllegalArgumentException
                errorPosition = 1
                put 6* throws IllegalArgumentException
                errorPosition = 2
                put 6*4 throws IllegalArgumentException
                errorPosition = 3
                put 6*4: throws IllegalArgumentException
                errorPosition = 4
                put 6*4:0 = 0
                errorPosition = 4
                """);
        sentence(5, "Returns the error position that was kept last; it stays until the next text that is not as told "
                + "is stored.", """
                put 1*1:g throws IllegalArgumentException
                errorPosition = 4
                append 49 = 1
                errorPosition = 4
                append 31 throws IllegalArgumentException
                errorPosition = 4
                type *1:1
                store = 0
                errorPosition = 4
                7 times put 1*1:1 = 7
                put 1*1:1 throws IllegalStateException
                errorPosition = 4
                remove 0
                errorPosition = 4
                put 1 throws IllegalArgumentException
                errorPosition = 1
                store throws IllegalArgumentException
                errorPosition = 0
                """);
        sentence(5, "Throws NoSuchElementException if none was kept", """
                errorPosition throws NoSuchElementException
                put 1*1:1 = 0
                errorPosition throws NoSuchElementException
                append 31 throws IllegalArgumentException
                errorPosition throws NoSuchElementException
                7 times put 1*1:1 = 7
                put 1*1:1 throws IllegalStateException
                errorPosition throws NoSuchElementException
                store throws IllegalArgumentException
                errorPosition = 0
                """);
    }

    private static void promise6() {
        noFile(6, NO_FILE, "remove #", "6", "5");
        sentence(6, "Returns the number of files that remain.", FULL, """
                remove 7 = 7
                remove 0 = 6
                remove 3 = 5
                remove 1 = 4
                remove 2 = 3
                remove 4 = 2
                remove 5 = 1
                remove 6 = 0
                remove 6 throws IndexOutOfBoundsException
                files = 0
                room = 240
                """);
        sentence(6, "Removes a file. Its cells stay as they are, but belong to no file.", FULL, """
                erase 0
                flip 239 15
                remove 0 = 7
                remove 7 = 6
                isErased 0 = true
                symbol 239 = 11
                owner 0 = -1
                owner 29 = -1
                owner 30 = 1
                owner 209 = 6
                owner 210 = -1
                owner 239 = -1
                wrong -1 = 1
                erased -1 = 1
                """);
        sentence(6, "Cells that belong to no file count for wrong and erased with -1, can be damaged, and keep what "
                + "they have when a file is removed.", """
                put 1*1:1 = 0
                flip 8 3
                erase 8
                flip 9 3
                erase 9
                wrong -1 = 2
                erased -1 = 2
                remove 0 = 0
                wrong -1 = 2
                erased -1 = 2
                symbol 8 = 3
                flip 8 3 = 0
                wrong -1 = 1
                erase 8 = 0
                burst 0 240 0 = 0
                erased -1 = 240
                """);
    }

    private static void promise7() {
        String what = "what: 0 for its symbols, 1 for its check symbols in a block, 2 for its depth, 3 for its seal, "
                + "4 for its blocks, 5 for its first cell, 6 for the number of its cells";
        sentence(7, what, """
                put 1*1:1 = 0
                put 5*2:{17} = 1
                file 1 -1 throws IllegalArgumentException
                file 1 0 = 17
                file 1 1 = 5
                file 1 2 = 2
                file 1 3 = 157
                file 1 4 = 3
                file 1 5 = 9
                file 1 6 = 39
                file 1 7 throws IllegalArgumentException
                """);
        sentence(7, "Throws IllegalArgumentException if what is not 0 to 6", "put 1*1:1 = 0\n",
                each("file 0 #", ARGUMENT, "-1", "7", "8", MIN, MAX), "file 0 0 = 1\nfile 0 6 = 9\n");
        noFile(7, NO_FILE, "file # 5", "0", "63");
        sentence(7, FIRST_THROWN, each("file 0 #", BOUNDS, "-1", "7"), "put 1*1:1 = 0\n",
                each("file 1 #", BOUNDS, "-1", "7", MIN, MAX), each("file -1 #", BOUNDS, "-1", "7"));
        sentence(7, "beginning with 1, for each symbol of the file, in order, it is multiplied by 17, the symbol is "
                + "added, and the remainder by 251 is taken.", """
                put 1*1:0 = 0
                put 1*1:f = 1
                put 1*1:c8 = 2
                put 1*1:c9 = 3
                put 1*1:ca = 4
                put 1*1:ffffffffffffffffffffffffffffffff = 5
                put 1*1:00000000000000000000000000000000 = 6
                file 0 3 = 17
                file 1 3 = 32
                file 2 3 = 250
                file 3 3 = 0
                file 4 3 = 1
                file 5 3 = 121
                file 6 3 = 152
                """);
        sentence(7, "The seal is made of the symbols of the file alone, without missing ones.", """
                put 1*1:1 = 0
                put 1*1:10 = 1
                put 1*1:{8} = 2
                put 1*1:{9} = 3
                file 0 3 = 18
                file 1 3 = 55
                file 3 3 = 160
                condition 0 = 0
                condition 3 = 0
                """);
    }

    private static void promise8() {
        sentence(8, "Returns the set of files.", "files = 0\n", FULL, """
                files = 255
                remove 7 = 7
                files = 127
                remove 0 = 6
                files = 126
                """);
        sentence(8, "Sets are bit masks, bit k for number k.", "8 times put 1*1:1 = 7\n",
                eachFrom(0, 6, "remove #"), """
                files = 128
                put 1*1:1 = 0
                files = 129
                remove 7 = 1
                files = 1
                remove 0 = 0
                files = 0
                """);
    }

    private static void promise9() {
        String noSuch = "Throws IndexOutOfBoundsException if there is no such file, block or position";
        noFile(9, noSuch, "cellOf # 0 8", "8", "71");
        sentence(9, noSuch, """
                put 1*1:{32} = 0
                put 6*2:{9} = 1
                cellOf 0 0 0 = 0
                cellOf 0 3 8 = 35
                cellOf 0 4 0 throws IndexOutOfBoundsException
                cellOf 0 0 9 throws IndexOutOfBoundsException
                cellOf 0 3 9 throws IndexOutOfBoundsException
                cellOf 1 0 0 = 36
                cellOf 1 1 13 = 63
                cellOf 1 2 0 throws IndexOutOfBoundsException
                cellOf 1 0 14 throws IndexOutOfBoundsException
                cellOf 2 0 0 throws IndexOutOfBoundsException
                """, each("cellOf 1 # 0", BOUNDS, "-1", MIN, MAX), each("cellOf 1 0 #", BOUNDS, "-1", MIN, MAX));
        sentence(9, BLOCK_FROM, """
                put 1*1:{32} = 0
                cellOf 0 -1 0 throws IndexOutOfBoundsException
                cellOf 0 0 0 = 0
                cellOf 0 3 0 = 27
                cellOf 0 4 0 throws IndexOutOfBoundsException
                """);
        sentence(9, "The blocks of a file are taken in groups of as many as the depth says, one after the other; the "
                + "last group can be smaller.", """
                put 1*2:{17} = 0
                cellOf 0 0 0 = 0
                cellOf 0 1 0 = 1
                cellOf 0 0 8 = 16
                cellOf 0 1 8 = 17
                cellOf 0 2 0 = 18
                cellOf 0 2 8 = 26
                new
                put 1*4:1 = 0
                cellOf 0 0 1 = 1
                cellOf 0 0 8 = 8
                put 1*4:{24} = 1
                cellOf 1 2 0 = 11
                cellOf 1 0 1 = 12
                cellOf 1 2 8 = 35
                put 1*4:{32} = 2
                cellOf 2 3 0 = 39
                cellOf 2 0 1 = 40
                cellOf 2 3 8 = 71
                put 1*3:{25} = 3
                cellOf 3 2 8 = 98
                cellOf 3 3 0 = 99
                cellOf 3 3 1 = 100
                cellOf 3 3 8 = 107
                """);
    }

    private static void promise10() {
        noCell(10, CELL_RANGE, "owner #", " = -1", " = -1", " = 0", " = 7");
        noCell(10, NO_CELL, "owner #", " = -1", " = -1", " = 0", " = 7");
        sentence(10, "Returns the file, -1 if there is none.", """
                put 1*1:1 = 0
                put 6*2:{9} = 1
                owner 0 = 0
                owner 8 = 0
                owner 9 = 1
                owner 36 = 1
                owner 37 = -1
                remove 0 = 1
                owner 8 = -1
                owner 9 = 1
                new
                put 1*1:1 = 0
                put 1*1:2 = 1
                remove 0 = 1
                put 6*1:3 = 0
                owner 0 = -1
                owner 8 = -1
                owner 9 = 1
                owner 17 = 1
                owner 18 = 0
                owner 31 = 0
                owner 32 = -1
                """);
    }

    private static void promise11() {
        String none = " throws NoSuchElementException";
        noCell(11, CELL_RANGE, "placeOf #", none, none, " = 0", " = 209");
        noCell(11, NO_CELL, "placeOf #", none, none, " = 0", " = 209");
        sentence(11, "Throws NoSuchElementException if it belongs to no file", """
                placeOf 0 throws NoSuchElementException
                put 1*1:1 = 0
                put 1*1:2 = 1
                placeOf 8 = 8
                placeOf 9 = 0
                placeOf 17 = 8
                placeOf 18 throws NoSuchElementException
                placeOf 239 throws NoSuchElementException
                remove 0 = 1
                placeOf 8 throws NoSuchElementException
                placeOf 9 = 0
                """);
        sentence(11, "Returns 100 times the number of the block plus the position.", """
                put 6*1:{32} = 0
                put 6*3:{32} = 1
                placeOf 13 = 13
                placeOf 14 = 100
                placeOf 55 = 313
                placeOf 56 = 0
                placeOf 58 = 200
                placeOf 59 = 1
                placeOf 97 = 213
                placeOf 98 = 300
                placeOf 111 = 313
                """);
        sentence(11, FIRST_THROWN, each("placeOf #", BOUNDS, "-1", "240", MIN, MAX));
    }

    private static void promise12() {
        sentence(12, "Returns how many cells the greatest area has in which no cell belongs to a file.",
                "room = 240\n", FULL, """
                room = 0
                burst 0 240 0 = 240
                room = 0
                remove 3 = 7
                room = 30
                remove 4 = 6
                room = 60
                remove 7 = 5
                room = 60
                clear
                room = 240
                new
                3 times put 6*4:{32} = 2
                put 1*1:{24} = 3
                put 3*1:{32} = 4
                room = 1
                new
                put 1*1:1 = 0
                room = 231
                4 times put 6*1:{32} = 4
                room = 7
                remove 0 = 4
                room = 9
                remove 4 = 3
                room = 63
                """);
    }

    // ---- cells and damage

    private static void promise13() {
        noCell(13, CELL_RANGE, "symbol #", " = 0", " = 0", " = 0", " = 4");
        noCell(13, NO_CELL, "symbol #", " = 0", " = 0", " = 0", " = 4");
        sentence(13, "Returns the symbol of a cell, also if it is erased.", """
                flip 239 15
                erase 239
                symbol 239 = 15
                erase 0
                symbol 0 = 0
                put 1*1:f = 0
                symbol 0 = 15
                erase 1
                symbol 1 = 15
                """);
        sentence(13, "A symbol is a number from 0 to 15.", """
                flip 0 15 = 15
                symbol 0 = 15
                flip 0 15 = 0
                symbol 0 = 0
                put 1*1:0f = 0
                found 0 0 1 = 0
                found 0 0 2 = 15
                """);
    }

    private static void promise14() {
        noCell(14, CELL_RANGE, "isErased #", " = false", " = false", " = false", " = false");
        noCell(14, NO_CELL, "isErased #", " = false", " = false", " = false", " = false");
        sentence(14, "Returns whether a cell is erased.", """
                burst 1 238 0 = 0
                isErased 0 = false
                isErased 1 = true
                isErased 238 = true
                isErased 239 = false
                """, FULL, "isErased 1 = false\nisErased 238 = false\n");
        sentence(14, "A cell that is flipped stays erased if it is.", """
                erase 0 = 1
                flip 0 15 = 15
                isErased 0 = true
                burst 0 1 15 = 0
                isErased 0 = true
                flip 1 15 = 15
                isErased 1 = false
                """);
    }

    private static void promise15() {
        noCell(15, CELL_RANGE, "flip # 1", " = 1", " = 1", " = 1", " = 5");
        noCell(15, NO_CELL, "flip # 15", " = 15", " = 15", " = 15", " = 11");
        sentence(15, "difference: the symbol that is added, 1 to 15", """
                flip 0 0 throws IllegalArgumentException
                flip 0 1 = 1
                flip 0 15 = 14
                flip 0 16 throws IllegalArgumentException
                symbol 0 = 14
                """);
        sentence(15, "Throws IllegalArgumentException if difference is out of range", "put 1*1:1 = 0\n",
                each("flip 0 #", ARGUMENT, "0", "-1", "16", "17", MIN, MAX), "undo = 0\n",
                each("flip 239 #", ARGUMENT, "0", "-1", "16", MIN, MAX), "flip 239 15 = 15\nflip 239 1 = 14\n");
        sentence(15, "To flip a cell adds a symbol other than 0 to its symbol", """
                put 1*1:f = 0
                flip 1 0 throws IllegalArgumentException
                wrong 0 = 0
                flip 1 15 = 0
                flip 1 15 = 15
                wrong 0 = 0
                """);
        sentence(15, FIRST_THROWN, each("flip 240 #", BOUNDS, "0", "16", MIN),
                each("flip -1 #", BOUNDS, "0", "16", MAX));
    }

    private static void promise16() {
        noCell(16, CELL_RANGE, "erase #", " = 1", " = 1", " = 1", " = 1");
        noCell(16, NO_CELL, "erase #", " = 1", " = 1", " = 1", " = 1");
        sentence(16, "Returns 1 if it was not erased before, otherwise 0.", """
                erase 239 = 1
                erase 239 = 0
                erase 239 = 0
                undo = 2
                undo = 1
                undo = 0
                erase 239 = 1
                burst 0 240 0 = 0
                erase 0 = 0
                put 1*1:1 = 0
                erase 8 = 1
                erase 9 = 0
                """);
        sentence(16, "to erase it makes it erased, and its symbol stays.", """
                flip 239 15
                erase 239 = 1
                symbol 239 = 15
                wrong -1 = 1
                """);
    }

    private static void promise17() {
        noCell(17, "from: the first cell", "burst # 1 1", " = 0", " = 0", " = 1", " = 1");
        noCell(17, "Throws IndexOutOfBoundsException if there is no such first cell", "burst # 1 0", " = 0", " = 0",
                " = 1", " = 1");
        sentence(17, "length: the number of cells, from 1 up to the last cell", """
                burst 0 0 1 throws IllegalArgumentException
                burst 0 241 1 throws IllegalArgumentException
                burst 0 240 1 = 0
                wrong -1 = 240
                burst 239 0 1 throws IllegalArgumentException
                burst 239 2 1 throws IllegalArgumentException
                burst 239 1 2 = 0
                symbol 239 = 3
                symbol 238 = 1
                burst 100 141 0 throws IllegalArgumentException
                burst 100 140 0 = 0
                erased -1 = 140
                isErased 99 = false
                isErased 100 = true
                isErased 239 = true
                burst 0 1 0 = 0
                erased -1 = 141
                """);
        sentence(17, "A burst beyond the last cell is out of range.", """
                burst 1 240 0 throws IllegalArgumentException
                burst 238 3 5 throws IllegalArgumentException
                burst 1 239 0 = 0
                erased -1 = 239
                """, each("burst 239 # 1", ARGUMENT, "2", "240", MAX), each("burst 1 # 1", ARGUMENT, "240", MAX));
        sentence(17, "kind: 0 to erase them, otherwise the symbol by which they are flipped, 1 to 15", """
                burst 0 2 -1 throws IllegalArgumentException
                burst 0 2 0 = 0
                isErased 1 = true
                symbol 1 = 0
                burst 2 2 1 = 0
                symbol 3 = 1
                isErased 3 = false
                burst 2 2 15 = 0
                symbol 3 = 14
                burst 2 2 16 throws IllegalArgumentException
                symbol 4 = 0
                """);
        sentence(17, "Throws IllegalArgumentException if length or kind is out of range", "put 1*1:1 = 0\n",
                each("burst 0 # 1", ARGUMENT, "0", "-1", "241", MIN, MAX),
                each("burst 0 9 #", ARGUMENT, "-1", "16", MIN, MAX), "burst 0 0 16" + ARGUMENT, "undo = 0\n");
        sentence(17, "Returns the number of these cells that belong to files.", "burst 0 240 1 = 0\n", FULL, """
                burst 0 240 1 = 240
                burst 239 1 0 = 1
                remove 7 = 7
                remove 0 = 6
                burst 0 240 1 = 180
                burst 0 30 1 = 0
                burst 0 31 1 = 1
                burst 209 1 1 = 1
                burst 209 31 1 = 1
                burst 210 30 0 = 0
                """);
        sentence(17, FIRST_THROWN, each("burst 240 # 1", BOUNDS, "0", "1", "241", MIN, MAX),
                each("burst -1 1 #", BOUNDS, "-1", "16", MIN, MAX));
    }

    private static void promise18() {
        String range = "file: the file whose cells count, or -1 for all cells";
        noFileOrAll(18, range, "wrong #");
        noFileOrAll(18, "Throws IndexOutOfBoundsException if file is neither -1 nor a file", "wrong #");
        sentence(18, "Returns the number of cells that are wrong.", "wrong -1 = 0\n", FULL, """
                wrong -1 = 0
                flip 0 1
                flip 29 15
                flip 210 1
                flip 239 1
                wrong -1 = 4
                wrong 0 = 2
                wrong 1 = 0
                wrong 7 = 2
                burst 0 240 2 = 240
                wrong -1 = 240
                wrong 0 = 30
                wrong 7 = 30
                new
                put 1*1:1 = 0
                put 1*1:2 = 1
                remove 0 = 1
                put 6*1:3 = 0
                flip 8 1
                burst 17 2 1
                burst 31 2 1
                wrong 0 = 2
                wrong 1 = 1
                wrong -1 = 5
                """);
        sentence(18, "it is wrong if its symbol is another one, whether it is erased or not.", """
                put 1*1:1 = 0
                erase 0
                wrong 0 = 0
                flip 0 1
                wrong 0 = 1
                flip 0 1
                wrong 0 = 0
                flip 1 15
                erase 1
                wrong 0 = 1
                """);
        sentence(18, "Cells that belong to no file count for wrong and erased with -1", """
                put 1*1:1 = 0
                flip 9 1
                wrong 0 = 0
                wrong -1 = 1
                flip 8 1
                wrong 0 = 1
                wrong -1 = 2
                remove 0
                wrong -1 = 2
                """);
    }

    private static void promise19() {
        String range = "file: the file whose cells count, or -1 for all cells";
        noFileOrAll(19, range, "erased #");
        noFileOrAll(19, "Throws IndexOutOfBoundsException if file is neither -1 nor a file", "erased #");
        sentence(19, "Returns the number of cells that are erased.", "erased -1 = 0\n", FULL, """
                erased -1 = 0
                erase 0
                erase 29
                erase 210
                erase 239
                erased -1 = 4
                erased 0 = 2
                erased 1 = 0
                erased 7 = 2
                burst 0 240 0 = 240
                erased -1 = 240
                erased 0 = 30
                erased 7 = 30
                new
                put 1*1:1 = 0
                put 1*1:2 = 1
                remove 0 = 1
                put 6*1:3 = 0
                erase 8
                burst 17 2 0
                burst 31 2 0
                erased 0 = 2
                erased 1 = 1
                erased -1 = 5
                """);
        sentence(19, "Cells that belong to no file count for wrong and erased with -1", """
                put 1*1:1 = 0
                erase 9
                erased 0 = 0
                erased -1 = 1
                erase 8
                erased 0 = 1
                erased -1 = 2
                remove 0
                erased -1 = 2
                """);
    }

    // ---- decoding

    private static void promise20() {
        String noSum = "Throws IndexOutOfBoundsException if there is no such file or block, or j is not less than "
                + "the number of check symbols, or negative";
        noFile(20, noSum, "sum # 0 0", "0", "0");
        noBlock(20, noSum, "sum # @ 0", "0");
        blockFrom(20, "sum # @ 0", "0");
        sentence(20, noSum, eachFrom(1, 6, "put #*1:1"), """
                sum 0 0 0 = 0
                sum 1 0 1 = 0
                sum 2 0 2 = 0
                sum 3 0 3 = 0
                sum 4 0 4 = 0
                sum 5 0 5 = 0
                sum 0 0 1 throws IndexOutOfBoundsException
                sum 1 0 2 throws IndexOutOfBoundsException
                sum 2 0 3 throws IndexOutOfBoundsException
                sum 3 0 4 throws IndexOutOfBoundsException
                sum 4 0 5 throws IndexOutOfBoundsException
                sum 5 0 6 throws IndexOutOfBoundsException
                """, each("sum 5 0 #", BOUNDS, "-1", MIN, MAX));
        sentence(20, "j: the number j, from 0", """
                put 2*1:1 = 0
                sum 0 0 -1 throws IndexOutOfBoundsException
                sum 0 0 0 = 0
                sum 0 0 1 = 0
                sum 0 0 2 throws IndexOutOfBoundsException
                """);
        sentence(20, "It is sound if, for each j from 0 to r - 1, the sum over all positions i of the symbol at i "
                + "times the power i * j of 2 is 0.", "put 6*4:{32} = 0\nput 1*1:{32} = 1\n",
                eachFrom(0, 5, "sum 0 0 # = 0"),
                eachFrom(0, 5, "sum 0 3 # = 0"), eachFrom(0, 3, "sum 1 # 0 = 0"));
        sentence(20, "The powers of 2 are the products of so many symbols 2; the power 0 is 1.", """
                put 6*1:0 = 0
                flip 0 15
                sum 0 0 0 = 15
                sum 0 0 5 = 15
                undo
                flip 13 15
                sum 0 0 0 = 15
                sum 0 0 1 = 7
                sum 0 0 2 = 5
                sum 0 0 3 = 12
                sum 0 0 4 = 3
                sum 0 0 5 = 4
                """);
        sentence(20, "Returns the sum of a block for soundness, by the symbols of its cells, also of erased ones.", """
                put 1*1:0 = 0
                erase 8
                sum 0 0 0 = 0
                flip 8 15
                sum 0 0 0 = 15
                flip 0 15
                sum 0 0 0 = 0
                """);
    }

    /** So many errors at the end of a block and erasures at its beginning, up to the limit and one beyond. */
    private static String upToTheLimit(int r, int errors) {
        int erasures = r - 2 * errors;
        int set = 0;
        StringBuilder script = new StringBuilder("put " + r + "*1:{8} = 0\n");
        for (int i = 0; i < errors; i++) {
            int position = 7 + r - i;
            set |= 1 << position;
            script.append("flip ").append(position).append(' ').append(15 - i).append('\n');
        }
        script.append(eachFrom(0, erasures - 1, "erase #"));
        script.append("decoded 0 0 0 = ").append(erasures).append("\ndecoded 0 0 1 = ").append(errors);
        script.append("\ndecoded 0 0 2 = ").append(set).append("\nmargin 0 0 = 0\n");
        for (int i = 0; i < 8; i++) {
            script.append("read 0 ").append(i).append(" = ").append((i * 7 + 3) % 16).append('\n');
        }
        script.append("erase ").append(erasures).append("\ndecoded 0 0 0 = ").append(erasures + 1).append('\n');
        return script + "decoded 0 0 1" + NONE + "decoded 0 0 2" + NONE + "margin 0 0" + NONE + "undecodable 0 = 1\n";
    }

    private static void promise21() {
        String what = "what: 0 for the number of erasures; 1 for the number of errors; 2 for the set of the "
                + "positions of the errors";
        sentence(21, what, """
                put 2*1:1 = 0
                flip 9 15
                decoded 0 0 -1 throws IllegalArgumentException
                decoded 0 0 0 = 0
                decoded 0 0 1 = 1
                decoded 0 0 2 = 512
                decoded 0 0 3 throws IllegalArgumentException
                """);
        noFile(21, NO_BLOCK, "decoded # 0 1", "0", "0");
        noBlock(21, NO_BLOCK, "decoded # @ 0", "0");
        blockFrom(21, "decoded # @ 2", "0");
        sentence(21, "Throws IllegalArgumentException if what is not 0 to 2", "put 1*1:1 = 0\n",
                each("decoded 0 0 #", ARGUMENT, "-1", "3", "4", MIN, MAX));
        sentence(21, "Throws NoSuchElementException if what is 1 or 2, and the block cannot be decoded", """
                put 1*1:1 = 0
                erase 0
                decoded 0 0 0 = 1
                decoded 0 0 1 = 0
                decoded 0 0 2 = 0
                erase 8
                decoded 0 0 0 = 2
                decoded 0 0 1 throws NoSuchElementException
                decoded 0 0 2 throws NoSuchElementException
                burst 0 9 0 = 9
                decoded 0 0 0 = 9
                decoded 0 0 1 throws NoSuchElementException
                """);
        for (int r = 1; r <= 6; r++) {
            for (int errors = 0; 2 * errors <= r; errors++) {
                sentence(21, "with 2 * e + f at most r.", upToTheLimit(r, errors));
            }
        }
        for (int r = 1; r <= 6; r++) {
            sentence(21, "A block with more erasures than check symbols cannot be decoded.", "put " + r + "*1:1 = 0\n",
                    "burst 0 " + r + " 0 = " + r + "\ndecoded 0 0 1 = 0\n",
                    "erase " + r + " = 1\ndecoded 0 0 1" + NONE + "found 0 0 0" + NONE,
                    "burst 0 240 0 = " + (r + 8) + "\ndecoded 0 0 0 = " + (r + 8) + "\ndecoded 0 0 2" + NONE);
        }
        sentence(21, "An erased cell is never an error, whatever its symbol is", """
                put 2*1:1 = 0
                flip 9 15
                decoded 0 0 1 = 1
                erase 9
                decoded 0 0 1 = 0
                decoded 0 0 2 = 0
                flip 0 1
                erase 0
                decoded 0 0 0 = 2
                decoded 0 0 1 = 0
                """);
        sentence(21, FIRST_THROWN, """
                put 1*1:1 = 0
                burst 0 2 0
                decoded 0 0 -1 throws IllegalArgumentException
                decoded 0 0 3 throws IllegalArgumentException
                decoded 0 1 -1 throws IndexOutOfBoundsException
                decoded 0 1 3 throws IndexOutOfBoundsException
                decoded 1 0 3 throws IndexOutOfBoundsException
                decoded -1 0 1 throws IndexOutOfBoundsException
                """);
    }

    private static void promise22() {
        String noSuch = "Throws IndexOutOfBoundsException if there is no such file, block or position";
        noFile(22, noSuch, "found # 0 1", "1", "8");
        noBlock(22, noSuch, "found # @ 8", "0");
        blockFrom(22, "found # @ 0", "0");
        sentence(22, noSuch, """
                put 1*1:12345678 = 0
                put 6*1:12345678 = 1
                found 0 0 0 = 8
                found 0 0 8 = 8
                found 0 0 9 throws IndexOutOfBoundsException
                found 1 0 13 = 8
                found 1 0 14 throws IndexOutOfBoundsException
                """, each("found 1 0 #", BOUNDS, "-1", MIN, MAX));
        sentence(22, "Throws NoSuchElementException if the block cannot be decoded", """
                put 1*1:12345678 = 0
                erase 8
                flip 8 15
                found 0 0 8 = 8
                erase 0
                found 0 0 8 throws NoSuchElementException
                found 0 0 0 throws NoSuchElementException
                found 0 0 4 throws NoSuchElementException
                """);
        sentence(22, FIRST_THROWN, """
                put 1*1:1 = 0
                burst 0 9 0
                found 0 0 -1 throws IndexOutOfBoundsException
                found 0 0 9 throws IndexOutOfBoundsException
                found 0 1 0 throws IndexOutOfBoundsException
                """);
    }

    private static void promise23() {
        String noSuch = "Throws IndexOutOfBoundsException if there is no such file or symbol";
        noFile(23, noSuch, "read # 0", "1", "8");
        sentence(23, noSuch, """
                put 1*1:f = 0
                put 1*1:{9} = 1
                put 1*1:{32} = 2
                read 0 0 = 15
                read 0 1 throws IndexOutOfBoundsException
                read 1 7 = 4
                read 1 8 = 11
                read 1 9 throws IndexOutOfBoundsException
                read 1 15 throws IndexOutOfBoundsException
                read 2 31 = 12
                read 2 32 throws IndexOutOfBoundsException
                """, each("read 2 #", BOUNDS, "-1", MIN, MAX));
        sentence(23, "index: the index of the symbol, from 0", """
                put 1*1:{32} = 0
                read 0 -1 throws IndexOutOfBoundsException
                read 0 0 = 3
                read 0 31 = 12
                """);
        sentence(23, "Throws NoSuchElementException if its block cannot be decoded", """
                put 1*1:{9} = 0
                erase 0
                read 0 0 = 3
                erase 1
                read 0 0 throws NoSuchElementException
                read 0 7 throws NoSuchElementException
                read 0 8 = 11
                burst 16 2 0
                read 0 8 throws NoSuchElementException
                """);
        sentence(23, FIRST_THROWN, """
                put 1*1:{9} = 0
                burst 0 18 0
                read 0 9 throws IndexOutOfBoundsException
                read 0 -1 throws IndexOutOfBoundsException
                read 1 0 throws IndexOutOfBoundsException
                """);
    }

    private static void promise24() {
        noFile(24, NO_FILE, "condition #", "0", "0");
        sentence(24, "Returns 0 if all blocks are sound and have no erasures; 1 if it can be decoded and is true to "
                + "its seal; 2 if it can be decoded and is not true to its seal; 3 if it cannot be decoded", """
                put 1*1:12345678f = 0
                condition 0 = 0
                erase 17
                condition 0 = 1
                erase 0
                condition 0 = 1
                flip 1 6
                condition 0 = 2
                erase 16
                condition 0 = 3
                new
                put 2*1:{32} = 0
                flip 39 15
                condition 0 = 1
                erase 39
                condition 0 = 1
                erase 38
                condition 0 = 1
                erase 37
                condition 0 = 3
                """);
        sentence(24, "the first one that applies, where 0 only counts if it is true to its seal.", """
                put 1*1:12345678f = 0
                burst 1 2 6 = 2
                condition 0 = 2
                burst 1 2 6 = 2
                condition 0 = 0
                """);
        sentence(24, "A file is decoded if all of its blocks are", """
                put 1*2:{17} = 0
                put 1*1:1 = 1
                burst 27 213 0
                condition 0 = 0
                condition 1 = 3
                undo
                burst 0 4 0
                condition 0 = 3
                condition 1 = 0
                undo
                burst 25 2 0
                condition 0 = 3
                new
                put 1*1:1 = 0
                burst 9 231 0
                condition 0 = 0
                undecodable 0 = 0
                describe 0 -1 = 5
                """);
        sentence(24, "Sound blocks that are not true to the seal make the condition 2.", """
                put 1*1:12345678 = 0
                flip 0 1
                condition 0 = 3
                flip 8 1
                sum 0 0 0 = 0
                condition 0 = 2
                undo
                undo
                condition 0 = 0
                """);
    }

    private static void promise25() {
        noFile(25, NO_FILE, "undecodable #", "0", "0");
        sentence(25, "Returns the set of blocks.", """
                put 1*1:{32} = 0
                undecodable 0 = 0
                erase 35
                undecodable 0 = 0
                erase 34
                undecodable 0 = 8
                burst 0 2 0
                undecodable 0 = 9
                burst 0 36 0 = 36
                undecodable 0 = 15
                put 1*1:1 = 1
                undecodable 1 = 0
                burst 36 2 0
                undecodable 1 = 1
                """);
    }

    private static void promise26() {
        noFile(26, NO_BLOCK, "margin # 0", "1", "1");
        noBlock(26, NO_BLOCK, "margin # @", "1");
        blockFrom(26, "margin # @", "1");
        sentence(26, "Throws NoSuchElementException if it cannot be decoded", """
                put 1*1:1 = 0
                put 6*1:1 = 1
                margin 0 0 = 1
                erase 8
                margin 0 0 = 0
                erase 0
                margin 0 0 throws NoSuchElementException
                margin 1 0 = 6
                burst 9 6 0
                margin 1 0 = 0
                erase 22
                margin 1 0 throws NoSuchElementException
                """);
        sentence(26, "Returns how many more erasures a block can have, whichever they are, so that it can still be "
                + "decoded to the same sound block.", """
                put 6*1:12345678 = 0
                flip 0 15
                flip 13 1
                margin 0 0 = 2
                erase 1
                erase 12
                margin 0 0 = 0
                read 0 0 = 1
                read 0 6 = 7
                read 0 7 = 8
                erase 6
                margin 0 0 throws NoSuchElementException
                undo
                erase 0
                margin 0 0 = 1
                """);
    }

    private static void promise27() {
        noFile(27, NO_FILE, "burstLimit #", "1", "1");
        sentence(27, "the greatest number of cells of its area that follow one another and hold at most as many "
                + "symbols of any block as this block has check symbols, for each such place, whatever is damaged "
                + "now.", """
                put 1*1:1 = 0
                burstLimit 0 = 1
                put 6*1:1 = 1
                burstLimit 1 = 6
                put 6*4:{32} = 2
                burstLimit 2 = 24
                put 6*4:{16} = 3
                burstLimit 3 = 12
                put 1*4:1 = 4
                burstLimit 4 = 1
                burst 0 240 0
                burstLimit 2 = 24
                burstLimit 4 = 1
                new
                put 3*2:{32} = 0
                burstLimit 0 = 6
                burst 0 7 0 = 7
                undecodable 0 = 1
                undo
                burst 37 7 0 = 7
                undecodable 0 = 8
                undo
                """, eachFrom(0, 38, "burst # 6 0 = 6\nundecodable 0 = 0\nundo"));
        sentence(27, "The places for burstLimit lie within the area, also across groups.", """
                put 3*2:{17} = 0
                put 1*1:1 = 1
                burstLimit 0 = 3
                burst 22 4 0 = 4
                undecodable 0 = 4
                undo
                burst 0 6 0 = 6
                undecodable 0 = 0
                undo
                """, eachFrom(0, 30, "burst # 3 0 = 3\nundecodable 0 = 0\nundo"));
        sentence(27, "Returns the number of cells, at most that of its area.", """
                4 times put 6*4:{32} = 3
                burstLimit 0 = 24
                burstLimit 3 = 24
                file 3 6 = 56
                """);
    }

    // ---- days, scrubbing and accounts

    private static void promise28() {
        sentence(28, "days: the number of days, 1 to 100", """
                advance 0 throws IllegalArgumentException
                advance 1 = 1
                advance 100 = 101
                advance 101 throws IllegalArgumentException
                day = 101
                undo = 1
                day = 1
                """);
        sentence(28, "Throws IllegalArgumentException if days is out of range",
                each("advance #", ARGUMENT, "0", "-1", "101", MIN, MAX), "undo" + NONE);
        sentence(28, "Throws IllegalStateException if the day number would be greater than 10000", """
                99 times advance 100 = 9900
                advance 1 = 9901
                advance 100 throws IllegalStateException
                advance 99 = 10000
                advance 1 throws IllegalStateException
                advance 100 throws IllegalStateException
                day = 10000
                undo = 5
                day = 9901
                undo = 4
                day = 9900
                advance 100 = 10000
                advance 1 throws IllegalStateException
                """);
        sentence(28, FIRST_THROWN, "100 times advance 100 = 10000\n",
                each("advance #", ARGUMENT, "0", "101", MIN, MAX), "advance 1" + STATE);
    }

    private static void scrubBudget() {
        sentence(29, "budget: the budget, 0 to 200", """
                put 1*1:1 = 0
                advance 1
                scrub -1 throws IllegalArgumentException
                scrub 201 throws IllegalArgumentException
                scrub 0 = 0
                reportLines = 0
                scrub 200 = 199
                reportLines = 1
                """);
        sentence(29, "Throws IllegalArgumentException if budget is out of range",
                "put 2*1:{16} = 0\nadvance 1\nscrub 1 = 0\n",
                each("scrub #", ARGUMENT, "-1", "201", MIN, MAX), "reportLines = 1\nnextToCheck = 1\nundo = 2\n", """
                new
                scrub 201 throws IllegalArgumentException
                scrub -1 throws IllegalArgumentException
                scrub 0 = 0
                scrub 200 = 200
                reportLines = 0
                account 6 = 0
                """);
        sentence(29, "Scrubbing with the budget 0 takes no block.", """
                put 2*1:{16} = 0
                advance 1
                scrub 1 = 0
                reportLines = 1
                scrub 0 = 0
                reportLines = 0
                nextToCheck = 1
                checked 0 1 = 0
                account 0 = 1
                account 6 = 1
                """);
        sentence(29, "To check a block takes 1 of the budget; if the budget is 0, scrubbing ends.", """
                put 2*1:{24} = 0
                advance 1
                scrub 2 = 0
                reportLines = 2
                nextToCheck = 2
                account 6 = 2
                scrub 1 = 0
                reportLines = 1
                nextToCheck throws NoSuchElementException
                advance 1
                scrub 4 = 1
                reportLines = 3
                account 0 = 6
                account 6 = 6
                new
                put 2*1:{16} = 0
                advance 1
                burst 0 2 0
                scrub 3 = 0
                reportLines = 1
                report 0 2 = 1
                nextToCheck = 1
                """);
        sentence(29, "repaired, if it can, and what is left of the budget is at least the number of its errors and "
                + "erasures",
                """
                put 4*1:{8} = 0
                advance 1
                flip 0 1
                erase 5
                scrub 2 = 1
                report 0 2 = 3
                report 0 3 = 2
                wrong 0 = 1
                scrub 3 = 0
                report 0 2 = 1
                report 0 3 = 2
                wrong 0 = 0
                erased 0 = 0
                account 4 = 1
                account 5 = 1
                account 6 = 4
                undo
                scrub 4 = 1
                report 0 2 = 1
                """);
        sentence(29, "What is left of the budget is looked at behind the 1 for the check.", """
                put 1*1:1 = 0
                advance 1
                erase 0
                scrub 1 = 0
                report 0 2 = 3
                erased 0 = 1
                scrub 2 = 0
                report 0 2 = 1
                erased 0 = 0
                """);
        sentence(29, "then this is taken of the budget, and the symbols that are found are written to the cells of "
                + "the errors and erasures", """
                put 6*1:{8} = 0
                advance 1
                burst 0 2 0
                flip 5 15
                flip 13 1
                scrub 200 = 195
                account 4 = 2
                account 5 = 2
                account 6 = 5
                account 7 = 18
                wrong -1 = 0
                erased -1 = 0
                new
                put 6*1:{8} = 0
                advance 1
                burst 0 6 15
                burst 0 6 0
                scrub 7 = 0
                wrong -1 = 0
                erased -1 = 0
                account 5 = 6
                """);
    }

    private static void scrubOutcomes() {
        sentence(29, "clean, if the block has no erasures and is sound", """
                put 1*1:12 = 0
                advance 1
                erase 8
                scrub 2 = 0
                report 0 2 = 1
                account 0 = 0
                account 1 = 1
                burst 1 2 5
                advance 1
                scrub 1 = 0
                report 0 2 = 0
                account 0 = 1
                wrong 0 = 2
                condition 0 = 2
                """);
        sentence(29, "lost, if it cannot be decoded", """
                put 1*1:1 = 0
                put 1*1:2 = 1
                advance 1
                erase 0
                burst 9 2 0
                scrub 4 = 1
                report 0 2 = 1
                report 0 3 = 1
                report 1 2 = 2
                report 1 3 = 0
                erased 1 = 2
                account 1 = 1
                account 2 = 1
                account 6 = 3
                """);
        sentence(29, "A postponed block ends scrubbing; the 1 for its check is taken all the same.", """
                put 6*1:{8} = 0
                put 1*1:1 = 1
                advance 1
                burst 0 6 0
                scrub 6 = 5
                reportLines = 1
                account 0 = 0
                account 3 = 1
                account 6 = 1
                checked 1 0 = 0
                scrub 8 = 0
                reportLines = 2
                account 0 = 1
                account 6 = 9
                """);
        sentence(29, "A postponed block keeps its day and is taken again by the next call of scrub.", """
                put 2*1:{16} = 0
                advance 3
                erase 0
                scrub 1 = 0
                checked 0 0 = 0
                nextToCheck = 0
                scrub 1 = 0
                report 0 1 = 0
                account 3 = 2
                account 6 = 2
                scrub 2 = 0
                report 0 1 = 0
                checked 0 0 = 3
                nextToCheck = 1
                """);
        sentence(29, "A block that was checked, whatever the outcome, except postponed, was checked last on the "
                + "present day.",
                """
                put 1*1:1 = 0
                put 1*1:2 = 1
                put 1*1:3 = 2
                put 1*1:4 = 3
                advance 100
                erase 9
                burst 18 2 0
                erase 27
                scrub 5 = 0
                report 3 2 = 3
                checked 0 0 = 100
                checked 1 0 = 100
                checked 2 0 = 100
                checked 3 0 = 0
                """);
        sentence(29, "An erased cell is never an error, whatever its symbol is, and is written in a repair also if "
                + "its symbol was right; all erasures and errors that are written count.", """
                put 2*1:1 = 0
                advance 1
                erase 0
                erase 9
                flip 9 15
                wrong 0 = 1
                scrub 3 = 0
                report 0 3 = 2
                account 4 = 0
                account 5 = 2
                account 7 = 12
                erased 0 = 0
                wrong 0 = 0
                """);
    }

    private static void scrubOrder() {
        sentence(29, "Only blocks that were not checked on the present day are taken.", """
                put 1*1:1 = 0
                advance 1
                scrub 200 = 199
                scrub 200 = 200
                reportLines = 0
                advance 1
                scrub 200 = 199
                reportLines = 1
                undo
                nextToCheck = 0
                scrub 1 = 0
                nextToCheck throws NoSuchElementException
                """);
        sentence(29, "Blocks that were stored today are not taken.", """
                put 1*1:1 = 0
                erase 0
                scrub 200 = 200
                reportLines = 0
                advance 1
                put 1*1:2 = 1
                scrub 200 = 198
                reportLines = 1
                report 0 0 = 0
                advance 1
                scrub 200 = 198
                reportLines = 2
                """);
        sentence(29, "the blocks of all files are taken in ascending order of the days on which they were checked "
                + "last; of several, those of the files with lower numbers come first, and of these those with lower "
                + "numbers.", """
                put 1*1:{16} = 0
                put 1*1:{16} = 1
                advance 1
                scrub 1 = 0
                report 0 0 = 0
                report 0 1 = 0
                scrub 2 = 0
                report 0 1 = 1
                report 1 0 = 1
                report 1 1 = 0
                put 1*1:1 = 2
                advance 1
                scrub 6 = 1
                reportLines = 5
                report 0 0 = 1
                report 0 1 = 1
                report 1 0 = 0
                report 1 1 = 0
                report 2 0 = 0
                report 2 1 = 1
                report 3 0 = 1
                report 3 1 = 0
                report 4 0 = 2
                report 4 1 = 0
                new
                8 times put 1*1:1 = 7
                remove 0
                advance 100
                put 1*1:2 = 0
                advance 1
                nextToCheck = 100
                scrub 7 = 0
                report 0 0 = 1
                report 6 0 = 7
                nextToCheck = 0
                """);
    }

    private static void promise29() {
        scrubBudget();
        scrubOutcomes();
        scrubOrder();
    }

    private static void promise30() {
        String what = "what: 0 for the file, 1 for the block, 2 for the outcome, 0 clean, 1 repaired, 2 lost, 3 "
                + "postponed, 3 for the number of errors and erasures that were repaired, or would have been if it "
                + "is postponed, otherwise 0";
        String mixed = """
                put 1*1:1 = 0
                put 2*1:2 = 1
                put 1*1:3 = 2
                put 6*1:{16} = 3
                advance 1
                burst 9 2 0
                burst 19 9 0
                burst 42 6 0
                scrub 12 = 5
                """;
        sentence(30, what, mixed, """
                reportLines = 5
                report 0 -1 throws IllegalArgumentException
                report 0 0 = 0
                report 0 1 = 0
                report 0 2 = 0
                report 0 3 = 0
                report 1 0 = 1
                report 1 2 = 1
                report 1 3 = 2
                report 2 0 = 2
                report 2 2 = 2
                report 2 3 = 0
                report 3 0 = 3
                report 3 1 = 0
                report 3 2 = 0
                report 3 3 = 0
                report 4 0 = 3
                report 4 1 = 1
                report 4 2 = 3
                report 4 3 = 6
                report 4 4 throws IllegalArgumentException
                report 5 0 throws IndexOutOfBoundsException
                """);
        sentence(30, "Throws IllegalArgumentException if what is not 0 to 3", "put 1*1:1 = 0\nadvance 1\nscrub 1 = 0\n",
                each("report 0 #", ARGUMENT, "-1", "4", MIN, MAX));
        sentence(30, "Throws IndexOutOfBoundsException if there is no such line", "put 1*1:{16} = 0\nadvance 1\n",
                each("report # 0", BOUNDS, "-1", "0", "1", MIN, MAX), "scrub 2 = 0\nreport 0 1 = 0\nreport 1 1 = 1\n",
                each("report # 0", BOUNDS, "-1", "2", "31", "32", MIN, MAX), "scrub 0 = 0\nreport 0 0" + BOUNDS);
        sentence(30, "line: the number of the line, from 0", """
                6 times put 1*1:{32} = 5
                put 1*1:{16} = 6
                advance 1
                scrub 200 = 174
                report -1 0 throws IndexOutOfBoundsException
                report 0 0 = 0
                report 25 0 = 6
                report 25 1 = 1
                report 26 0 throws IndexOutOfBoundsException
                """);
        sentence(30, "The last call of scrub leaves a report with a line for each block that was taken, in this "
                + "order; at first it has no lines.", """
                report 0 0 throws IndexOutOfBoundsException
                put 1*1:{16} = 0
                report 0 0 throws IndexOutOfBoundsException
                advance 1
                scrub 2 = 0
                report 1 1 = 1
                scrub 201 throws IllegalArgumentException
                report 1 1 = 1
                repair 0 0 = 0
                remove 0 = 0
                report 1 1 = 1
                scrub 200 = 200
                report 0 0 throws IndexOutOfBoundsException
                """);
        sentence(30, FIRST_THROWN, each("report 0 #", BOUNDS, "-1", "4"), "put 1*1:1 = 0\nadvance 1\nscrub 1 = 0\n",
                each("report 1 #", BOUNDS, "-1", "4", MIN, MAX), each("report -1 #", BOUNDS, "-1", "4"));
    }

    private static void promise31() {
        sentence(31, "Returns the number of lines of the report.", """
                reportLines = 0
                scrub 200 = 200
                reportLines = 0
                6 times put 1*1:{32} = 5
                put 1*1:{16} = 6
                scrub 200 = 200
                reportLines = 0
                advance 1
                scrub 1 = 0
                reportLines = 1
                advance 1
                scrub 26 = 0
                reportLines = 26
                scrub 26 = 26
                reportLines = 0
                advance 1
                burst 0 240 0
                scrub 27 = 1
                reportLines = 26
                """);
    }

    private static void promise32() {
        noFile(32, NO_BLOCK, "repair # 0", "0", "0");
        noBlock(32, NO_BLOCK, "repair # @", "0");
        blockFrom(32, "repair # @", "0");
        sentence(32, "Throws UnsupportedOperationException if the block cannot be decoded", """
                put 1*1:1 = 0
                put 6*1:1 = 1
                erase 0
                repair 0 0 = 1
                burst 0 2 0
                repair 0 0 throws UnsupportedOperationException
                erased 0 = 2
                burst 9 6 0
                repair 1 0 = 6
                burst 9 7 0
                repair 1 0 throws UnsupportedOperationException
                erased 1 = 7
                flip 16 1
                repair 1 0 throws UnsupportedOperationException
                """);
        sentence(32, "Returns the number of symbols that are written.", """
                put 6*1:{8} = 0
                repair 0 0 = 0
                burst 0 6 0
                repair 0 0 = 6
                burst 11 3 15
                repair 0 0 = 3
                wrong 0 = 0
                burst 0 2 0
                burst 12 2 1
                repair 0 0 = 4
                repair 0 0 = 0
                account 7 = 27
                """);
        sentence(32, "Repairs a block without a budget, as scrubbing would, but no counts change except that of "
                + "symbols that are written, and the day of its last check stays.", """
                put 4*1:{8} = 0
                advance 1
                flip 0 1
                burst 10 2 0
                repair 0 0 = 3
                wrong 0 = 0
                erased 0 = 0
                checked 0 0 = 0
                nextToCheck = 0
                reportLines = 0
                account 7 = 15
                """, eachFrom(0, 6, "account # = 0"));
        sentence(32, "A repair makes the symbols that it found those that were written last.", """
                put 1*1:12345678 = 0
                flip 1 6
                erase 2
                repair 0 0 = 1
                symbol 2 = 4
                wrong 0 = 1
                condition 0 = 2
                flip 2 6
                flip 1 6
                wrong 0 = 1
                """);
        sentence(32, FIRST_THROWN, """
                put 1*1:1 = 0
                burst 0 9 0
                repair 0 1 throws IndexOutOfBoundsException
                repair 1 0 throws IndexOutOfBoundsException
                repair -1 0 throws IndexOutOfBoundsException
                repair 0 0 throws UnsupportedOperationException
                """);
    }

    private static void promise33() {
        noFile(33, NO_BLOCK, "checked # 0", "0", "0");
        noBlock(33, NO_BLOCK, "checked # @", "0");
        blockFrom(33, "checked # @", "0");
        sentence(33, "A block has a day on which it was checked last, at first that on which it was stored.", """
                put 1*1:{32} = 0
                checked 0 0 = 0
                checked 0 3 = 0
                100 times advance 100 = 10000
                put 1*1:{32} = 1
                checked 0 3 = 0
                checked 1 0 = 10000
                checked 1 3 = 10000
                scrub 4 = 0
                checked 0 0 = 10000
                checked 0 3 = 10000
                """);
    }

    private static void promise34() {
        sentence(34, "Throws NoSuchElementException if it would take none, whatever the budget is", """
                nextToCheck throws NoSuchElementException
                put 1*1:{16} = 0
                nextToCheck throws NoSuchElementException
                advance 1
                nextToCheck = 0
                scrub 1 = 0
                nextToCheck = 1
                scrub 1 = 0
                nextToCheck throws NoSuchElementException
                advance 1
                burst 0 18 0
                scrub 2 = 0
                nextToCheck throws NoSuchElementException
                advance 1
                nextToCheck = 0
                remove 0
                nextToCheck throws NoSuchElementException
                """);
        sentence(34, "Returns 100 times the file plus the block.", """
                7 times put 1*1:1 = 6
                put 1*1:{32} = 7
                advance 1
                nextToCheck = 0
                scrub 10 = 0
                nextToCheck = 703
                scrub 1 = 0
                nextToCheck throws NoSuchElementException
                """);
    }

    private static void promise35() {
        sentence(35, "Returns what scrubbing would need now so that no block is postponed and all that it takes are "
                + "checked.",
                "needed = 0\n", FULL, """
                needed = 0
                burst 0 2 0
                needed = 0
                advance 1
                needed = 26
                scrub 26 = 0
                needed = 0
                account 3 = 0
                account 0 = 23
                account 1 = 1
                """, "new\n", FULL, """
                burst 0 240 0
                advance 1
                needed = 24
                scrub 24 = 0
                needed = 0
                account 2 = 24
                """);
        sentence(35, "Returns the least such budget.", """
                put 6*1:{16} = 0
                advance 1
                burst 14 6 0
                needed = 8
                scrub 7 = 5
                report 1 2 = 3
                needed = 7
                scrub 7 = 0
                report 0 2 = 1
                needed = 0
                advance 1
                burst 14 7 0
                needed = 2
                scrub 1 = 0
                needed = 1
                scrub 1 = 0
                needed = 0
                """);
    }

    private static void promise36() {
        sentence(36, "account: the number of the account, 0 to 7", """
                account -1 throws IllegalArgumentException
                account 0 = 0
                account 7 = 0
                account 8 throws IllegalArgumentException
                """, FULL, """
                account 0 = 0
                account 7 = 240
                account 8 throws IllegalArgumentException
                """);
        sentence(36, "Throws IllegalArgumentException if account is out of range",
                each("account #", ARGUMENT, "-1", "8", "9", MIN, MAX));
        sentence(36, "There are counts of the blocks that were clean, repaired, lost and postponed in scrubbing, "
                + "with the numbers 0 to 3, of the errors and of the erasures that were repaired in scrubbing, with "
                + "the numbers 4 and 5, of the budget that was taken, with the number 6, and of the symbols that "
                + "were written to cells by storing and scrubbing, with the number 7.", FULL, """
                advance 1
                flip 0 15
                burst 10 2 0
                burst 20 3 0
                burst 210 2 0
                scrub 200 = 171
                account 0 = 20
                account 1 = 3
                account 2 = 1
                account 3 = 0
                account 4 = 1
                account 5 = 4
                account 6 = 29
                account 7 = 245
                undo
                scrub 1 = 0
                account 0 = 0
                account 1 = 0
                account 3 = 1
                account 4 = 0
                account 6 = 1
                account 7 = 240
                """);
    }

    private static void promise37() {
        sentence(37, "Returns the day number.", """
                day = 0
                100 times advance 100 = 10000
                day = 10000
                advance 1 throws IllegalStateException
                day = 10000
                clear
                day = 0
                """);
    }

    private static void promise38() {
        sentence(38, "Throws ArithmeticException if there are no files", """
                health throws ArithmeticException
                erase 0
                health throws ArithmeticException
                put 1*1:1 = 0
                health = 9/9
                remove 0 = 0
                health throws ArithmeticException
                undo
                health = 9/9
                clear = 1
                health throws ArithmeticException
                """);
        sentence(38, "Returns the share of cells of files that are neither wrong nor erased: their number divided by "
                + "the number of cells of files, both converted to double.", FULL, """
                health = 240/240
                erase 239
                health = 239/240
                flip 239 1
                health = 239/240
                flip 0 1
                health = 238/240
                burst 0 239 0
                health = 0/240
                remove 0 = 7
                health = 0/210
                new
                put 1*1:1 = 0
                burst 9 231 0
                health = 9/9
                flip 8 15
                health = 8/9
                burst 0 7 0
                health = 1/9
                """);
    }

    // ---- texts, history and saving

    private static void promise39() {
        noFile(39, NO_FILE, "describe # 4", "49", "56");
        sentence(39, "index: the index of the character, from 0, or -1 for the length", """
                put 1*1:0 = 0
                put 6*4:{32} = 1
                describe 0 -2 throws NoSuchElementException
                describe 0 -1 = 5
                describe 0 0 = 49
                describe 0 4 = 48
                describe 0 5 throws NoSuchElementException
                describe 1 -1 = 36
                describe 1 0 = 54
                describe 1 1 = 42
                describe 1 2 = 52
                describe 1 3 = 58
                describe 1 4 = 51
                describe 1 11 = 52
                describe 1 12 = 98
                describe 1 35 = 99
                describe 1 36 throws NoSuchElementException
                """);
        sentence(39, "Throws NoSuchElementException if index is not -1, and there is no such character",
                "put 2*3:09af = 0\n",
                each("describe 0 #", NONE, "-2", "8", "36", MIN, MAX), """
                describe 0 -1 = 8
                describe 0 4 = 48
                describe 0 5 = 57
                describe 0 6 = 97
                describe 0 7 = 102
                """);
        sentence(39, "Throws IllegalStateException if the file cannot be decoded", """
                put 1*1:{9} = 0
                erase 17
                describe 0 -1 = 13
                describe 0 12 = 98
                erase 16
                describe 0 -1 throws IllegalStateException
                describe 0 0 throws IllegalStateException
                describe 0 4 throws IllegalStateException
                describe 0 12 throws IllegalStateException
                """);
        sentence(39, "describe first asks whether the file can be decoded, also for the length.", """
                put 1*1:1 = 0
                burst 0 2 0
                describe 0 -1 throws IllegalStateException
                """);
        sentence(39, FIRST_THROWN, """
                describe 0 -2 throws IndexOutOfBoundsException
                put 1*1:1 = 0
                burst 0 9 0
                describe 0 -2 throws IllegalStateException
                describe 0 5 throws IllegalStateException
                describe 1 -1 throws IndexOutOfBoundsException
                describe 1 -2 throws IndexOutOfBoundsException
                describe -1 5 throws IndexOutOfBoundsException
                """);
    }

    private static void promise40() {
        sentence(40, "Throws NoSuchElementException if no change is remembered", """
                undo throws NoSuchElementException
                append 49
                save = 0
                undo throws NoSuchElementException
                advance 1
                undo = 0
                undo throws NoSuchElementException
                advance 1
                restore = 0
                undo throws NoSuchElementException
                advance 1
                clear
                undo throws NoSuchElementException
                """);
        sentence(40, "for at most 6 changes, of which the oldest one is forgotten for good when there would be "
                + "more.", """
                put 1*1:1 = 0
                5 times advance 1 = 5
                undo = 5
                undo = 4
                undo = 3
                undo = 2
                undo = 1
                files = 1
                undo = 0
                files = 0
                undo throws NoSuchElementException
                new
                put 1*1:1 = 0
                6 times advance 1 = 6
                undo = 5
                undo = 4
                advance 50 = 54
                undo = 4
                undo = 3
                undo = 2
                undo = 1
                day = 1
                undo = 0
                day = 0
                undo throws NoSuchElementException
                files = 1
                new
                100 times advance 1 = 100
                6 times undo = 0
                day = 94
                undo throws NoSuchElementException
                """);
        sentence(40, "Returns the number of changes that are still remembered.", """
                advance 1
                undo = 0
                advance 1
                advance 1
                undo = 1
                5 times advance 1
                undo = 5
                advance 1
                advance 1
                undo = 5
                """);
        sentence(40, "Changes are told by the calls alone, also if nothing is different, as with scrub(0).", """
                put 1*1:1 = 0
                scrub 0 = 0
                scrub 200 = 200
                repair 0 0 = 0
                undo = 3
                undo = 2
                undo = 1
                undo = 0
                erase 0 = 1
                erase 0 = 0
                burst 0 1 0 = 0
                undo = 2
                isErased 0 = true
                undo = 1
                undo = 0
                isErased 0 = false
                """);
        sentence(40, "A change is a call of store, remove, flip, erase, burst, advance, scrub or repair that returns "
                + "without an exception, also if nothing is different then.", """
                put 1*1:1 = 0
                undo = 0
                flip 0 1
                undo = 0
                erase 0
                undo = 0
                burst 0 240 1
                undo = 0
                advance 100
                undo = 0
                scrub 200
                undo = 0
                undo throws NoSuchElementException
                put 1*1:1 = 0
                save = 1
                restore = 1
                repair 0 0
                undo = 0
                remove 0
                undo = 0
                undo throws NoSuchElementException
                7 times put 1*1:1 = 7
                put 1*1:1 throws IllegalStateException
                put 1*1 throws IllegalArgumentException
                remove 8 throws IndexOutOfBoundsException
                flip 0 0 throws IllegalArgumentException
                erase 240 throws IndexOutOfBoundsException
                burst 0 0 0 throws IllegalArgumentException
                advance 0 throws IllegalArgumentException
                scrub 201 throws IllegalArgumentException
                repair 0 1 throws IndexOutOfBoundsException
                undo = 5
                files = 127
                """);
        sentence(40, "The object remembers everything except the report, the input, the error position and what was "
                + "saved, as it is just before a change", """
                put 2*3:{9} = 0
                put 6*4:{24} = 1
                advance 3
                scrub 2 = 0
                remove 1 = 1
                put 1*1:5 = 1
                undo = 5
                undo = 4
                file 1 0 = 24
                file 1 1 = 6
                file 1 2 = 4
                file 1 3 = 232
                file 1 4 = 3
                file 1 5 = 20
                file 1 6 = 42
                placeOf 61 = 213
                condition 1 = 0
                checked 0 1 = 3
                checked 1 2 = 0
                account 0 = 2
                account 7 = 62
                undo = 3
                checked 0 1 = 0
                account 0 = 0
                undo = 2
                day = 0
                undo = 1
                room = 220
                symbol 61 = 0
                account 7 = 20
                """);
        sentence(40, "undo and restore leave the report, the error position and the input.", """
                put 1*1:1 = 0
                put 1*1:g throws IllegalArgumentException
                advance 1
                scrub 1 = 0
                60 times append 49 = 60
                undo = 2
                undo = 1
                undo = 0
                files = 0
                reportLines = 1
                errorPosition = 4
                append 49 throws IllegalStateException
                """);
    }

    private static void promise41() {
        sentence(41, "Returns the number of files.", "save = 0\n", FULL, """
                save = 8
                remove 0
                save = 7
                clear
                save = 0
                restore = 0
                """);
        sentence(41, "What was saved before is replaced.", FULL, """
                save = 8
                clear
                save = 0
                restore = 0
                files = 0
                advance 1
                save = 0
                undo = 0
                restore = 0
                day = 1
                """);
        sentence(41, "Saves all that the history remembers for a change.", """
                put 2*3:{9} = 0
                put 1*2:{16} = 1
                advance 3
                flip 0 5
                erase 239
                scrub 1 = 0
                save = 2
                scrub 200
                advance 100
                burst 0 240 0
                remove 0
                remove 1
                put 6*4:{32} = 0
                put 3*1:{32} = 1
                restore = 2
                day = 3
                wrong -1 = 1
                erased -1 = 1
                isErased 239 = true
                file 0 0 = 9
                file 0 1 = 2
                file 0 2 = 3
                file 0 3 = 160
                file 1 4 = 2
                file 1 5 = 20
                checked 0 0 = 0
                checked 1 1 = 0
                nextToCheck = 0
                placeOf 21 = 100
                account 3 = 1
                account 6 = 1
                account 7 = 38
                health = 37/38
                """);
    }

    private static void promise42() {
        sentence(42, "Throws IllegalStateException if nothing was saved", """
                restore throws IllegalStateException
                put 1*1:1 = 0
                restore throws IllegalStateException
                undo = 0
                clear = 0
                restore throws IllegalStateException
                save = 0
                restore = 0
                """);
        sentence(42, "Restores what was saved. It stays saved.", "save = 0\n", FULL, """
                restore = 0
                files = 0
                room = 240
                put 1*1:1 = 0
                restore = 0
                files = 0
                wrong -1 = 0
                symbol 239 = 0
                flip 0 1
                restore = 0
                symbol 0 = 0
                clear
                restore = 0
                """);
        sentence(42, "Returns the number of files.", FULL, """
                save = 8
                clear = 8
                restore = 8
                files = 255
                room = 0
                """);
        sentence(42, "clear and restore forget all of them.", """
                save = 0
                6 times advance 1 = 6
                restore = 0
                undo throws NoSuchElementException
                day = 0
                advance 1 = 1
                undo = 0
                undo throws NoSuchElementException
                """);
        sentence(42, "undo and restore leave the report, the error position and the input.", """
                save = 0
                put 1*1:1 = 0
                put 1*1:g throws IllegalArgumentException
                advance 1
                scrub 1 = 0
                60 times append 49 = 60
                restore = 0
                reportLines = 1
                report 0 2 = 0
                errorPosition = 4
                append 49 throws IllegalStateException
                """);
    }

    // ---- the description, sentence by sentence where no promise has it above

    /** A product by 2, so many times, is a shift that is reduced by the number 19 where it leaves the four bits. */
    private static int timesPowerOf2(int symbol, int exponent) {
        int result = symbol;
        for (int i = 0; i < exponent; i++) {
            result = result < 8 ? result << 1 : result << 1 ^ 19;
        }
        return result;
    }

    private static void symbolsAndProducts() {
        StringBuilder sums = new StringBuilder();
        for (int a = 1; a <= 15; a++) {
            sums.append("flip ").append(a).append(' ').append(a).append(" = ").append(a).append('\n');
        }
        for (int a = 0; a <= 15; a++) {
            for (int b = 1; b <= 15; b++) {
                sums.append("flip ").append(a).append(' ').append(b).append(" = ").append(a ^ b).append('\n');
                sums.append("flip ").append(a).append(' ').append(b).append(" = ").append(a).append('\n');
            }
        }
        sentence(15, "The sum of two symbols is their bitwise exclusive or.", sums.toString());
        StringBuilder products = new StringBuilder();
        for (int position = 0; position < 14; position++) {
            products.append(position % 7 == 0 ? "new\nput 6*1:0 = 0\n" : "");
            for (int symbol = 1; symbol <= 15; symbol++) {
                String flip = "flip " + position + " " + symbol + "\n";
                products.append(flip).append("sum 0 0 1 = ").append(timesPowerOf2(symbol, position)).append('\n');
                products.append("sum 0 0 5 = ").append(timesPowerOf2(symbol, position * 5)).append('\n').append(flip);
            }
        }
        sentence(20, "they are multiplied as polynomials whose coefficients are their bits, modulo 2, and the "
                + "result is reduced modulo the polynomial with the bits 10011, that is, the number 19.",
                products.toString());
    }

    private static void blocksAndFiles() {
        StringBuilder choices = new StringBuilder("put 1*1:5 = 0\nput 2*1:5 = 1\n");
        for (int d = 1; d <= 15; d++) {
            choices.append("flip 0 ").append(d).append("\nsum 0 0 0 = ").append(d).append("\nflip 0 ").append(d);
            choices.append("\nflip 9 ").append(d).append("\nflip 10 ").append(d).append("\nsum 1 0 0 = 0\n");
            choices.append("sum 1 0 1 = ").append(d ^ timesPowerOf2(d, 1)).append("\nflip 9 ").append(d);
            choices.append("\nflip 10 ").append(d).append('\n');
        }
        sentence(4, "For given data symbols, exactly one choice of the check symbols makes a block sound.",
                choices.toString());
        StringBuilder areas = new StringBuilder();
        for (int r = 1; r <= 6; r++) {
            for (int blocks = 1; blocks <= 4; blocks++) {
                areas.append("put ").append(r).append("*3:{").append(8 * blocks).append("} = 0\nfile 0 6 = ");
                areas.append(blocks * (8 + r)).append("\nroom = ").append(240 - blocks * (8 + r)).append("\nclear\n");
                areas.append("put ").append(r).append("*3:{").append(8 * blocks - 7).append("} = 0\nfile 0 6 = ");
                areas.append(blocks * (8 + r)).append("\nnew\n");
            }
        }
        sentence(7, "A file has an area of cells that follow one another, as many as all symbols of its blocks",
                areas.toString());
        StringBuilder places = new StringBuilder();
        for (int i = 0; i < 9; i++) {
            for (int[] at : new int[][] {{0, 0, 2 * i}, {0, 1, 2 * i + 1}, {0, 2, 18 + i}, {1, 0, 27 + 3 * i},
                    {1, 1, 28 + 3 * i}, {1, 2, 29 + 3 * i}, {1, 3, 54 + i}, {2, 0, 63 + 4 * i}, {2, 3, 66 + 4 * i},
                    {3, 0, 99 + 3 * i}, {3, 2, 101 + 3 * i}, {4, 0, 126 + i}, {4, 1, 135 + i}}) {
                places.append("cellOf ").append(at[0]).append(' ').append(at[1]).append(' ').append(i).append(" = ");
                places.append(at[2]).append('\n');
            }
        }
        String files = "put 1*2:{24} = 0\nput 1*3:{32} = 1\nput 1*4:{32} = 2\nput 1*4:{24} = 3\nput 1*1:{16} = 4\n";
        sentence(9, "The cells of a group follow those of the group before; in a group of g blocks, the symbol at the "
                + "position i of the block with the place q in the group, from 0, has the cell i * g + q of the group.",
                files, places.toString());
    }

    private static void storingAndDecoding() {
        sentence(4, "When a file is stored, its blocks are made sound, and all of its symbols are written to their "
                + "cells.", """
                burst 0 240 0
                burst 0 240 15
                put 2*2:123456789 = 0
                sum 0 0 0 = 0
                sum 0 0 1 = 0
                sum 0 1 0 = 0
                sum 0 1 1 = 0
                found 0 0 2 = 1
                found 0 0 9 = 8
                found 0 1 2 = 9
                found 0 1 3 = 0
                found 0 1 9 = 0
                symbol 4 = 1
                symbol 5 = 9
                symbol 18 = 8
                symbol 19 = 0
                symbol 20 = 15
                erased 0 = 0
                erased -1 = 220
                wrong 0 = 0
                wrong -1 = 220
                account 7 = 20
                """);
        StringBuilder erasures = new StringBuilder("put 6*1:0 = 0\ndecoded 0 0 0 = 0\ndecoded 0 0 1 = 0\n");
        for (int position = 0; position < 14; position++) {
            erasures.append("erase ").append(position).append(" = 1\n");
            erasures.append("decoded 0 0 0 = ").append(position + 1).append('\n');
        }
        sentence(21, "A block has erasures, the positions whose cells are erased, and perhaps errors. Let f be the "
                + "number of erasures.", erasures.toString());
        sentence(21, "There is at most one; e is the number of errors then.", """
                put 2*1:0 = 0
                flip 0 2
                flip 1 3
                decoded 0 0 1 = 1
                decoded 0 0 2 = 4
                found 0 0 0 = 2
                found 0 0 1 = 3
                found 0 0 2 = 1
                wrong 0 = 2
                repair 0 0 = 1
                decoded 0 0 1 = 0
                condition 0 = 2
                """);
        sentence(21, "If there is none, the block cannot be decoded.", """
                put 1*1:5 = 0
                put 2*1:5 = 1
                flip 0 1
                decoded 0 0 1 throws NoSuchElementException
                undecodable 0 = 1
                flip 9 7
                decoded 1 0 1 = 1
                flip 10 7
                decoded 1 0 1 throws NoSuchElementException
                undecodable 1 = 1
                erase 9
                decoded 1 0 1 throws NoSuchElementException
                erase 10
                decoded 1 0 1 = 0
                """);
        sentence(24, "it is true to its seal if the seal of the symbols that are found is its own.", """
                put 1*1:024 = 0
                put 1*1:100 = 1
                file 0 3 = 182
                file 1 3 = 182
                flip 1 1
                flip 2 2
                flip 3 4
                flip 0 7
                read 0 0 = 1
                read 0 1 = 0
                read 0 2 = 0
                condition 0 = 0
                wrong 0 = 4
                erase 1
                condition 0 = 1
                flip 3 1
                condition 0 = 2
                """);
    }

    private static void damageAndScrubbing() {
        sentence(18, "Each cell keeps the symbol that was written last", """
                put 1*1:f = 0
                flip 1 15 = 0
                wrong 0 = 1
                flip 1 1 = 1
                wrong 0 = 1
                flip 1 14 = 15
                wrong 0 = 0
                remove 0
                flip 1 15 = 0
                wrong -1 = 1
                put 1*1:0 = 0
                wrong -1 = 0
                flip 1 15 = 15
                wrong 0 = 1
                """);
        sentence(29, "otherwise postponed.", """
                put 3*1:5 = 0
                flip 10 15
                erase 0
                advance 1
                scrub 2 = 1
                report 0 2 = 3
                report 0 3 = 2
                checked 0 0 = 0
                scrub 3 = 0
                report 0 2 = 1
                checked 0 0 = 1
                """);
        sentence(7, "A method that throws an exception leaves the state unchanged, unless its documentation says "
                + "otherwise.", """
                put 2*1:5 = 0
                burst 0 3 0
                remove 1 throws IndexOutOfBoundsException
                flip 240 1 throws IndexOutOfBoundsException
                flip 0 16 throws IllegalArgumentException
                erase 240 throws IndexOutOfBoundsException
                burst 238 3 0 throws IllegalArgumentException
                advance 101 throws IllegalArgumentException
                scrub 201 throws IllegalArgumentException
                repair 0 0 throws UnsupportedOperationException
                store throws IllegalArgumentException
                append 31 throws IllegalArgumentException
                restore throws IllegalStateException
                file 0 6 = 10
                erased -1 = 3
                wrong -1 = 0
                day = 0
                account 7 = 10
                undo = 1
                undo = 0
                undo throws NoSuchElementException
                """);
        sentence(40, "Methods whose documentation does not mention a change only answer a question.", """
                put 1*1:5 = 0
                flip 1 2
                """, questions(), questions(), "account 7 = 9\nundo = 1\nundo = 0\nfiles = 0\n");
    }

    /** Each question once; what they answer is told in other tests. */
    private static String questions() {
        return """
                errorPosition throws NoSuchElementException
                file 0 6 = 9
                files = 1
                cellOf 0 0 8 = 8
                owner 8 = 0
                placeOf 8 = 8
                room = 231
                symbol 1 = 7
                isErased 1 = false
                wrong 0 = 1
                erased 0 = 0
                sum 0 0 0 = 2
                decoded 0 0 0 = 0
                found 0 0 0 throws NoSuchElementException
                read 0 0 throws NoSuchElementException
                condition 0 = 3
                undecodable 0 = 1
                margin 0 0 throws NoSuchElementException
                burstLimit 0 = 1
                report 0 0 throws IndexOutOfBoundsException
                reportLines = 0
                checked 0 0 = 0
                nextToCheck throws NoSuchElementException
                needed = 0
                account 0 = 0
                day = 0
                health = 8/9
                describe 0 -1 throws IllegalStateException
                """;
    }

    // ---- the sentences of the document

    private static String plain(String text) {
        return text.replace("`", "").replaceAll("\\s+", " ").trim();
    }

    /** Returns for a line of the document that says what is allowed or refused its words, otherwise an empty text. */
    private static String limitOf(String line) {
        if (line.startsWith("Throws ")) {
            return plain(line);
        }
        return line.startsWith("- `") && line.matches(".*\\d.*") ? plain(line.substring(2)) : "";
    }

    private static void dueTested(int number, String section) {
        for (String line : section.split("\n")) {
            if (!limitOf(line).isEmpty() && !QUOTES.get(number).contains(limitOf(line))) {
                fault("no test for promise " + number + ", \"" + limitOf(line) + "\"");
            }
        }
    }

    /** Returns the sentences of the description, each up to a full stop, colon or semicolon that ends it. */
    private static List<String> sentencesOf(String description) {
        List<String> sentences = new ArrayList<>();
        for (String words : plain(description).split("(?<=[.:;]) ")) {
            boolean isHead = words.endsWith(":") || HEADS.contains(words);
            if (!isHead) {
                sentences.add(words.substring(0, words.length() - 1));
            }
        }
        return sentences;
    }

    private static boolean isQuoted(String words) {
        for (List<String> quotes : QUOTES.values()) {
            for (String one : quotes) {
                if (one.contains(words) || words.contains(one.replaceAll("[.;]$", ""))) {
                    return true;
                }
            }
        }
        return false;
    }

    private static void dueDescriptionTested(String head) {
        int end = head.indexOf("The constructor and the methods follow");
        for (String words : sentencesOf(head.substring(head.indexOf("## Description") + 14, end))) {
            if (!isQuoted(words)) {
                fault("no test for the description, \"" + words + "\"");
            }
        }
    }

    /**
     * Each sentence must stand in the document, and each one of its description and each of its lines that tells a
     * limit must have a test, at least for a part of it.
     */
    private static void compareWithDocument() throws IOException {
        if (!Files.exists(DOCUMENT)) {
            System.out.println("no " + DOCUMENT + ": the sentences are not compared with it");
            return;
        }
        String[] sections = Files.readString(DOCUMENT).split("\n## Promise ");
        for (int number = 1; number < sections.length && number <= 42; number++) {
            promise = number;
            quote = "the document";
            String section = sections[number];
            for (String words : QUOTES.get(number)) {
                if (!plain(section).contains(words) && !plain(sections[0]).contains(words)) {
                    fault("it does not say \"" + words + "\"");
                }
            }
            dueTested(number, section);
        }
        quote = "the description";
        dueDescriptionTested(sections[0]);
    }

    private static final Runnable[] PROMISES = {
        BoundariesTest::promise1, BoundariesTest::promise2, BoundariesTest::promise3, BoundariesTest::promise4,
        BoundariesTest::promise5, BoundariesTest::promise6, BoundariesTest::promise7, BoundariesTest::promise8,
        BoundariesTest::promise9, BoundariesTest::promise10, BoundariesTest::promise11, BoundariesTest::promise12,
        BoundariesTest::promise13, BoundariesTest::promise14, BoundariesTest::promise15, BoundariesTest::promise16,
        BoundariesTest::promise17, BoundariesTest::promise18, BoundariesTest::promise19, BoundariesTest::promise20,
        BoundariesTest::promise21, BoundariesTest::promise22, BoundariesTest::promise23, BoundariesTest::promise24,
        BoundariesTest::promise25, BoundariesTest::promise26, BoundariesTest::promise27, BoundariesTest::promise28,
        BoundariesTest::promise29, BoundariesTest::promise30, BoundariesTest::promise31, BoundariesTest::promise32,
        BoundariesTest::promise33, BoundariesTest::promise34, BoundariesTest::promise35, BoundariesTest::promise36,
        BoundariesTest::promise37, BoundariesTest::promise38, BoundariesTest::promise39, BoundariesTest::promise40,
        BoundariesTest::promise41, BoundariesTest::promise42,
    };

    public static void main(String[] args) throws IOException {
        for (int i = 0; i < PROMISES.length; i++) {
            promise = i + 1;
            PROMISES[i].run();
            if (!QUOTES.containsKey(i + 1)) {
                fault("no test for promise " + (i + 1));
            }
        }
        symbolsAndProducts();
        blocksAndFiles();
        storingAndDecoding();
        damageAndScrubbing();
        compareWithDocument();
        Set<String> sentences = new TreeSet<>();
        QUOTES.forEach((number, words) -> words.forEach(text -> sentences.add(number + text)));
        System.out.println("boundary cases: " + sentences.size() + " sentences, " + tests + " tests, " + asked
                + " calls, " + wrong + " wrong");
        System.exit(wrong == 0 ? 0 : 1);
    }
}
