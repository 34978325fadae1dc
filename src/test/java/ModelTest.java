import java.lang.reflect.InvocationTargetException;
import java.lang.reflect.Method;
import java.lang.reflect.Modifier;
import java.util.ArrayDeque;
import java.util.ArrayList;
import java.util.Arrays;
import java.util.Comparator;
import java.util.Deque;
import java.util.List;
import java.util.NoSuchElementException;
import java.util.Random;
import java.util.regex.Matcher;
import java.util.regex.Pattern;

/**
 * Asks the class and a slow model of the document the same calls, drawn with fixed seeds, and prints each answer that
 * differs. The model is written another way: lists of cells, equations solved by elimination, copies of all it has.
 */
public final class ModelTest {
    private static final int OBJECTS = 1200;
    private static final int CALLS = 512;
    private static final String HEX = "0123456789abcdef";

    // ---- the model

    private static int times(int a, int b) {
        int product = 0;
        for (int bit = 0; bit < 4; bit++) {
            if ((b & 1 << bit) != 0) {
                product ^= a << bit;
            }
        }
        for (int bit = 6; bit >= 4; bit--) {
            if ((product & 1 << bit) != 0) {
                product ^= 19 << bit - 4;
            }
        }
        return product;
    }

    private static int powerOf2(int exponent) {
        int power = 1;
        for (int i = 0; i < exponent; i++) {
            power = times(power, 2);
        }
        return power;
    }

    private static final int[][] POWER = new int[14][6];

    static {
        for (int i = 0; i < 14; i++) {
            for (int j = 0; j < 6; j++) {
                POWER[i][j] = powerOf2(i * j);
            }
        }
    }

    private static int sumOf(int[] symbols, int j) {
        int sum = 0;
        for (int i = 0; i < symbols.length; i++) {
            sum ^= times(symbols[i], POWER[i][j]);
        }
        return sum;
    }

    /** Returns the sound block that differs at these positions at most, or null. */
    private static int[] solved(int[] symbols, int r, List<Integer> positions) {
        int width = positions.size();
        int[][] rows = new int[r][width + 1];
        for (int j = 0; j < r; j++) {
            for (int k = 0; k < width; k++) {
                rows[j][k] = POWER[positions.get(k)][j];
            }
            rows[j][width] = sumOf(symbols, j);
        }
        for (int k = 0; k < width; k++) {
            int pivot = k;
            while (pivot < r && rows[pivot][k] == 0) {
                pivot++;
            }
            if (pivot == r) {
                throw new AssertionError("no pivot");
            }
            int[] row = rows[pivot];
            rows[pivot] = rows[k];
            rows[k] = row;
            int inverse = 1;
            while (times(inverse, row[k]) != 1) {
                inverse++;
            }
            for (int i = 0; i <= width; i++) {
                row[i] = times(row[i], inverse);
            }
            for (int j = 0; j < r; j++) {
                int factor = rows[j][k];
                if (j != k) {
                    for (int i = 0; i <= width; i++) {
                        rows[j][i] ^= times(factor, row[i]);
                    }
                }
            }
        }
        for (int j = width; j < r; j++) {
            if (rows[j][width] != 0) {
                return null;
            }
        }
        int[] result = symbols.clone();
        for (int k = 0; k < width; k++) {
            result[positions.get(k)] ^= rows[k][width];
        }
        return result;
    }

    private static final class Decoding {
        private int[] symbols;
        private int erasures;
        private int errors;

        private int damage() {
            return symbols == null ? 0 : Integer.bitCount(erasures | errors);
        }
    }

    private static final class ModelFile implements Cloneable {
        private int[] symbols;
        private int r;
        private int depth;
        private int seal;
        private int first;
        private int[] checkedOn;
        /** For each cell of the area 100 times its block plus its position. */
        private int[] places;

        private ModelFile copy() {
            ModelFile copy = new ModelFile();
            copy.symbols = symbols;
            copy.r = r;
            copy.depth = depth;
            copy.seal = seal;
            copy.first = first;
            copy.checkedOn = checkedOn.clone();
            copy.places = places;
            return copy;
        }

        private int cell(int block, int position) {
            for (int i = 0; i < places.length; i++) {
                if (places[i] == 100 * block + position) {
                    return first + i;
                }
            }
            throw new AssertionError("no place");
        }

        private static int[] placesFor(int blocks, int depth, int size) {
            int[] places = new int[blocks * size];
            int at = 0;
            for (int from = 0; from < blocks; from += depth) {
                for (int position = 0; position < size; position++) {
                    for (int block = from; block < from + depth && block < blocks; block++) {
                        places[at++] = 100 * block + position;
                    }
                }
            }
            return places;
        }
    }

    private static final class World {
        private final int[] symbol = new int[240];
        private final int[] last = new int[240];
        private final boolean[] gone = new boolean[240];
        private final int[] accounts = new int[8];
        private final ModelFile[] files = new ModelFile[8];
        private int day = 0;

        private World copy() {
            World copy = new World();
            System.arraycopy(symbol, 0, copy.symbol, 0, 240);
            System.arraycopy(last, 0, copy.last, 0, 240);
            System.arraycopy(gone, 0, copy.gone, 0, 240);
            System.arraycopy(accounts, 0, copy.accounts, 0, 8);
            for (int i = 0; i < 8; i++) {
                copy.files[i] = files[i] == null ? null : files[i].copy();
            }
            copy.day = day;
            return copy;
        }
    }

    static final class Model {
        private World world = new World();
        private World kept = null;
        private final Deque<World> past = new ArrayDeque<>();
        private String input = "";
        private int errorKept = -1;
        private List<int[]> lines = new ArrayList<>();

        private void change() {
            past.addLast(world.copy());
            if (past.size() > 6) {
                past.removeFirst();
            }
        }

        private ModelFile need(int file) {
            if (file < 0 || file > 7 || world.files[file] == null) {
                throw new IndexOutOfBoundsException();
            }
            return world.files[file];
        }

        private ModelFile need(int file, int block) {
            ModelFile f = need(file);
            if (block < 0 || block >= f.checkedOn.length) {
                throw new IndexOutOfBoundsException();
            }
            return f;
        }

        private ModelFile need(int file, int block, int position) {
            ModelFile f = need(file, block);
            if (position < 0 || position >= f.r + 8) {
                throw new IndexOutOfBoundsException();
            }
            return f;
        }

        private void needCell(int cell) {
            if (cell < 0 || cell > 239) {
                throw new IndexOutOfBoundsException();
            }
        }

        private static void needArgument(boolean right) {
            if (!right) {
                throw new IllegalArgumentException();
            }
        }

        private int count() {
            return Integer.bitCount(files());
        }

        private Decoding decoding(ModelFile f, int block) {
            Decoding d = new Decoding();
            int[] symbols = new int[f.r + 8];
            List<Integer> erased = new ArrayList<>();
            for (int i = 0; i < symbols.length; i++) {
                int cell = f.cell(block, i);
                symbols[i] = world.symbol[cell];
                if (world.gone[cell]) {
                    erased.add(i);
                    d.erasures |= 1 << i;
                }
            }
            int limit = f.r - erased.size();
            for (int e = 0; 2 * e <= limit && d.symbols == null; e++) {
                for (int set = 0; set < 1 << symbols.length && d.symbols == null; set++) {
                    if (Integer.bitCount(set) == e && (set & d.erasures) == 0) {
                        List<Integer> positions = new ArrayList<>(erased);
                        for (int i = 0; i < symbols.length; i++) {
                            if ((set & 1 << i) != 0) {
                                positions.add(i);
                            }
                        }
                        d.symbols = solved(symbols, f.r, positions);
                        d.errors = set;
                    }
                }
            }
            return d;
        }

        private void writeCell(int cell, int symbol) {
            world.symbol[cell] = symbol;
            world.last[cell] = symbol;
            world.gone[cell] = false;
            world.accounts[7]++;
        }

        private int writeFound(ModelFile f, int block, Decoding d) {
            for (int i = 0; i < f.r + 8; i++) {
                if (((d.errors | d.erasures) & 1 << i) != 0) {
                    writeCell(f.cell(block, i), d.symbols[i]);
                }
            }
            return d.damage();
        }

        private static int sealOf(int[] symbols) {
            int seal = 1;
            for (int symbol : symbols) {
                seal = (seal * 17 + symbol) % 251;
            }
            return seal;
        }

        private int[] symbolsFound(ModelFile f) {
            int[] result = new int[f.symbols.length];
            for (int i = 0; i < result.length; i++) {
                Decoding d = decoding(f, i / 8);
                if (d.symbols == null) {
                    return null;
                }
                result[i] = d.symbols[f.r + i % 8];
            }
            return result;
        }

        private List<int[]> dueBlocks() {
            List<int[]> due = new ArrayList<>();
            for (int file = 0; file < 8; file++) {
                for (int b = 0; world.files[file] != null && b < world.files[file].checkedOn.length; b++) {
                    if (world.files[file].checkedOn[b] != world.day) {
                        due.add(new int[] {file, b, world.files[file].checkedOn[b]});
                    }
                }
            }
            due.sort(Comparator.comparingInt((int[] block) -> block[2]));
            return due;
        }

        int clear() {
            int count = count();
            world = new World();
            past.clear();
            return count;
        }

        int append(char c) {
            needArgument(c >= 32 && c <= 126);
            if (input.length() == 60) {
                throw new IllegalStateException();
            }
            input += c;
            return input.length();
        }

        private static final Pattern TEXT = Pattern.compile("[1-6]\\*[1-4]:[0-9a-f]{1,32}");

        private static int errorOf(String text) {
            for (int k = 0; k < text.length(); k++) {
                Matcher matcher = TEXT.matcher(text.substring(0, k + 1));
                if (!matcher.matches() && !matcher.hitEnd()) {
                    return k;
                }
            }
            return text.length();
        }

        int store() {
            String text = input;
            input = "";
            if (!TEXT.matcher(text).matches()) {
                errorKept = errorOf(text);
                throw new IllegalArgumentException();
            }
            ModelFile f = new ModelFile();
            f.r = HEX.indexOf(text.charAt(0));
            f.depth = HEX.indexOf(text.charAt(2));
            f.symbols = new int[text.length() - 4];
            for (int i = 0; i < f.symbols.length; i++) {
                f.symbols[i] = HEX.indexOf(text.charAt(4 + i));
            }
            int blocks = f.symbols.length / 8 + (f.symbols.length % 8 == 0 ? 0 : 1);
            f.checkedOn = new int[blocks];
            Arrays.fill(f.checkedOn, world.day);
            f.seal = sealOf(f.symbols);
            f.places = ModelFile.placesFor(blocks, f.depth, f.r + 8);
            int number = Integer.numberOfTrailingZeros(~files());
            f.first = 0;
            while (f.first + f.places.length <= 240 && !isFree(f.first, f.places.length)) {
                f.first++;
            }
            if (number > 7 || f.first + f.places.length > 240) {
                throw new IllegalStateException();
            }
            change();
            world.files[number] = f;
            for (int block = 0; block < blocks; block++) {
                writeNew(f, block);
            }
            return number;
        }

        private void writeNew(ModelFile f, int block) {
            int[] symbols = new int[f.r + 8];
            List<Integer> checks = new ArrayList<>();
            for (int i = 0; i < 8 && block * 8 + i < f.symbols.length; i++) {
                symbols[f.r + i] = f.symbols[block * 8 + i];
            }
            for (int i = 0; i < f.r; i++) {
                checks.add(i);
            }
            symbols = solved(symbols, f.r, checks);
            for (int i = 0; i < symbols.length; i++) {
                writeCell(f.cell(block, i), symbols[i]);
            }
        }

        private boolean isFree(int from, int length) {
            for (int cell = from; cell < from + length; cell++) {
                if (owner(cell) >= 0) {
                    return false;
                }
            }
            return true;
        }

        int errorPosition() {
            if (errorKept < 0) {
                throw new NoSuchElementException();
            }
            return errorKept;
        }

        int remove(int file) {
            need(file);
            change();
            world.files[file] = null;
            return count();
        }

        int file(int file, int what) {
            ModelFile f = need(file);
            needArgument(what >= 0 && what <= 6);
            return new int[] {f.symbols.length, f.r, f.depth, f.seal, f.checkedOn.length, f.first,
                f.places.length}[what];
        }

        int files() {
            int set = 0;
            for (int i = 0; i < 8; i++) {
                set |= world.files[i] == null ? 0 : 1 << i;
            }
            return set;
        }

        int cellOf(int file, int block, int position) {
            return need(file, block, position).cell(block, position);
        }

        int owner(int cell) {
            needCell(cell);
            for (int i = 0; i < 8; i++) {
                ModelFile f = world.files[i];
                if (f != null && f.first <= cell && cell < f.first + f.places.length) {
                    return i;
                }
            }
            return -1;
        }

        int placeOf(int cell) {
            int file = owner(cell);
            if (file < 0) {
                throw new NoSuchElementException();
            }
            return world.files[file].places[cell - world.files[file].first];
        }

        int room() {
            for (int length = 240; length > 0; length--) {
                for (int from = 0; from + length <= 240; from++) {
                    if (isFree(from, length)) {
                        return length;
                    }
                }
            }
            return 0;
        }

        int symbol(int cell) {
            needCell(cell);
            return world.symbol[cell];
        }

        boolean isErased(int cell) {
            needCell(cell);
            return world.gone[cell];
        }

        int flip(int cell, int difference) {
            needCell(cell);
            needArgument(difference >= 1 && difference <= 15);
            change();
            world.symbol[cell] ^= difference;
            return world.symbol[cell];
        }

        int erase(int cell) {
            needCell(cell);
            change();
            int result = world.gone[cell] ? 0 : 1;
            world.gone[cell] = true;
            return result;
        }

        int burst(int from, int length, int kind) {
            needCell(from);
            needArgument(length >= 1 && (long) from + length <= 240);
            needArgument(kind >= 0 && kind <= 15);
            change();
            int owned = 0;
            for (int cell = from; cell < from + length; cell++) {
                owned += owner(cell) >= 0 ? 1 : 0;
                world.gone[cell] |= kind == 0;
                world.symbol[cell] ^= kind;
            }
            return owned;
        }

        int wrong(int file) {
            int count = 0;
            if (file != -1) {
                need(file);
            }
            for (int cell = 0; cell < 240; cell++) {
                count += (file == -1 || owner(cell) == file) && world.symbol[cell] != world.last[cell] ? 1 : 0;
            }
            return count;
        }

        int erased(int file) {
            int count = 0;
            if (file != -1) {
                need(file);
            }
            for (int cell = 0; cell < 240; cell++) {
                count += (file == -1 || owner(cell) == file) && world.gone[cell] ? 1 : 0;
            }
            return count;
        }

        int sum(int file, int block, int j) {
            ModelFile f = need(file, block);
            if (j < 0 || j >= f.r) {
                throw new IndexOutOfBoundsException();
            }
            int sum = 0;
            for (int i = 0; i < f.r + 8; i++) {
                sum ^= times(world.symbol[f.cell(block, i)], powerOf2(i * j));
            }
            return sum;
        }

        int decoded(int file, int block, int what) {
            Decoding d = decoding(need(file, block), block);
            needArgument(what >= 0 && what <= 2);
            if (what == 0) {
                return Integer.bitCount(d.erasures);
            }
            if (d.symbols == null) {
                throw new NoSuchElementException();
            }
            return what == 1 ? Integer.bitCount(d.errors) : d.errors;
        }

        int found(int file, int block, int position) {
            Decoding d = decoding(need(file, block, position), block);
            if (d.symbols == null) {
                throw new NoSuchElementException();
            }
            return d.symbols[position];
        }

        int read(int file, int index) {
            ModelFile f = need(file);
            if (index < 0 || index >= f.symbols.length) {
                throw new IndexOutOfBoundsException();
            }
            return found(file, index / 8, f.r + index % 8);
        }

        int condition(int file) {
            ModelFile f = need(file);
            int[] symbols = symbolsFound(f);
            if (symbols == null) {
                return 3;
            }
            if (sealOf(symbols) != f.seal) {
                return 2;
            }
            for (int block = 0; block < f.checkedOn.length; block++) {
                if (decoding(f, block).damage() > 0) {
                    return 1;
                }
            }
            return 0;
        }

        int undecodable(int file) {
            ModelFile f = need(file);
            int set = 0;
            for (int block = 0; block < f.checkedOn.length; block++) {
                set |= decoding(f, block).symbols == null ? 1 << block : 0;
            }
            return set;
        }

        int margin(int file, int block) {
            ModelFile f = need(file, block);
            Decoding d = decoding(f, block);
            if (d.symbols == null) {
                throw new NoSuchElementException();
            }
            return f.r - 2 * Integer.bitCount(d.errors) - Integer.bitCount(d.erasures);
        }

        int burstLimit(int file) {
            ModelFile f = need(file);
            int limit = 0;
            while (limit < f.places.length && stands(f, limit + 1)) {
                limit++;
            }
            return limit;
        }

        private static boolean stands(ModelFile f, int length) {
            for (int from = 0; from + length <= f.places.length; from++) {
                int[] held = new int[f.checkedOn.length];
                for (int i = from; i < from + length; i++) {
                    if (++held[f.places[i] / 100] > f.r) {
                        return false;
                    }
                }
            }
            return true;
        }

        int advance(int days) {
            needArgument(days >= 1 && days <= 100);
            if (world.day + days > 10000) {
                throw new IllegalStateException();
            }
            change();
            world.day += days;
            return world.day;
        }

        int scrub(int budget) {
            needArgument(budget >= 0 && budget <= 200);
            change();
            lines = new ArrayList<>();
            int left = budget;
            for (int[] block : dueBlocks()) {
                if (left == 0) {
                    break;
                }
                left--;
                world.accounts[6]++;
                ModelFile f = world.files[block[0]];
                Decoding d = decoding(f, block[1]);
                int outcome = d.symbols == null ? 2 : d.damage() == 0 ? 0 : d.damage() <= left ? 1 : 3;
                world.accounts[outcome]++;
                lines.add(new int[] {block[0], block[1], outcome, d.damage()});
                if (outcome == 3) {
                    break;
                }
                f.checkedOn[block[1]] = world.day;
                if (outcome == 1) {
                    left -= writeFound(f, block[1], d);
                    world.accounts[4] += Integer.bitCount(d.errors);
                    world.accounts[5] += Integer.bitCount(d.erasures);
                    world.accounts[6] += d.damage();
                }
            }
            return left;
        }

        int report(int line, int what) {
            if (line < 0 || line >= lines.size()) {
                throw new IndexOutOfBoundsException();
            }
            needArgument(what >= 0 && what <= 3);
            return lines.get(line)[what];
        }

        int reportLines() {
            return lines.size();
        }

        int repair(int file, int block) {
            ModelFile f = need(file, block);
            Decoding d = decoding(f, block);
            if (d.symbols == null) {
                throw new UnsupportedOperationException();
            }
            change();
            return writeFound(f, block, d);
        }

        int checked(int file, int block) {
            return need(file, block).checkedOn[block];
        }

        int nextToCheck() {
            List<int[]> due = dueBlocks();
            if (due.isEmpty()) {
                throw new NoSuchElementException();
            }
            return 100 * due.get(0)[0] + due.get(0)[1];
        }

        int needed() {
            int need = 0;
            for (int[] block : dueBlocks()) {
                need += 1 + decoding(world.files[block[0]], block[1]).damage();
            }
            return need;
        }

        int account(int account) {
            needArgument(account >= 0 && account <= 7);
            return world.accounts[account];
        }

        int day() {
            return world.day;
        }

        double health() {
            int owned = 0;
            int well = 0;
            for (int cell = 0; cell < 240; cell++) {
                if (owner(cell) >= 0) {
                    owned++;
                    well += world.symbol[cell] == world.last[cell] && !world.gone[cell] ? 1 : 0;
                }
            }
            if (owned == 0) {
                throw new ArithmeticException();
            }
            return (double) well / owned;
        }

        int describe(int file, int index) {
            ModelFile f = need(file);
            int[] symbols = symbolsFound(f);
            if (symbols == null) {
                throw new IllegalStateException();
            }
            StringBuilder text = new StringBuilder(f.r + "*" + f.depth + ":");
            for (int symbol : symbols) {
                text.append(HEX.charAt(symbol));
            }
            if (index == -1) {
                return text.length();
            }
            if (index < 0 || index >= text.length()) {
                throw new NoSuchElementException();
            }
            return text.charAt(index);
        }

        int undo() {
            if (past.isEmpty()) {
                throw new NoSuchElementException();
            }
            world = past.removeLast();
            return past.size();
        }

        int save() {
            kept = world.copy();
            return count();
        }

        int restore() {
            if (kept == null) {
                throw new IllegalStateException();
            }
            world = kept.copy();
            past.clear();
            return count();
        }
    }

    // ---- the calls

    private final Random random;
    private final InterleavedArchive archive = new InterleavedArchive();
    private final Model model = new Model();
    private final List<String> calls = new ArrayList<>();
    private boolean differs = false;

    private ModelTest(long seed) {
        random = new Random(seed);
    }

    private static String answer(Object target, Method method, Object[] arguments) {
        try {
            return String.valueOf(method.invoke(target, arguments));
        } catch (InvocationTargetException e) {
            return e.getCause().getClass().getName();
        } catch (IllegalAccessException e) {
            throw new AssertionError(e);
        }
    }

    private void call(String name, Object... arguments) {
        if (differs || calls.size() >= CALLS) {
            return;
        }
        calls.add(name + Arrays.toString(arguments));
        String got = answer(archive, method(InterleavedArchive.class, name), arguments);
        String want = answer(model, method(Model.class, name), arguments);
        if (!got.equals(want)) {
            differs = true;
            System.out.println("after " + calls);
            System.out.println("the last call answered " + got + ", due is " + want);
        }
    }

    private static Method method(Class<?> kind, String name) {
        for (Method method : kind.getDeclaredMethods()) {
            if (method.getName().equals(name) && !Modifier.isPrivate(method.getModifiers())) {
                return method;
            }
        }
        throw new AssertionError(name);
    }

    private boolean chance(int percent) {
        return random.nextInt(100) < percent;
    }

    /** Returns a number below a bound, now and then one at its edge or far outside. */
    private int upTo(int bound) {
        if (chance(3)) {
            return new int[] {-1, bound, bound + 1, -2, Integer.MIN_VALUE, Integer.MAX_VALUE}[random.nextInt(6)];
        }
        return random.nextInt(bound);
    }

    private int someFile() {
        int files = model.files();
        int file = upTo(8);
        for (int i = 0; i < 20 && chance(95) && file >= 0 && file < 8 && (files & 1 << file) == 0; i++) {
            file = random.nextInt(8);
        }
        return file;
    }

    private int someBlock(int file) {
        boolean there = file >= 0 && file < 8 && (model.files() & 1 << file) != 0;
        return upTo(there ? model.file(file, 4) : 4);
    }

    private int someCell() {
        int used = 240 - model.room();
        return chance(85) && used > 0 ? upTo(used) : upTo(240);
    }

    private void type() {
        StringBuilder text = new StringBuilder();
        text.append((char) ('1' + random.nextInt(6))).append('*').append((char) ('1' + random.nextInt(4))).append(':');
        int length = chance(50) ? 1 + random.nextInt(12) : chance(20) ? 32 : 1 + random.nextInt(32);
        for (int i = 0; i < length; i++) {
            text.append(HEX.charAt(random.nextInt(16)));
        }
        if (chance(10)) {
            text.setCharAt(random.nextInt(text.length()), (char) (32 + random.nextInt(95)));
        }
        if (chance(5)) {
            text.setLength(random.nextInt(text.length()));
        }
        if (chance(3)) {
            text.append("0123456789abcdef0123456789abcdef");
        }
        for (int i = 0; i < text.length(); i++) {
            call("append", text.charAt(i));
        }
        if (chance(3)) {
            call("append", (char) random.nextInt(300));
        }
        call("store");
    }

    private void damage() {
        switch (random.nextInt(4)) {
            case 0:
                call("flip", someCell(), 1 + upTo(15));
                break;
            case 1:
                call("erase", someCell());
                break;
            default:
                int from = someCell();
                int length = chance(95) ? 1 + random.nextInt(1 + random.nextInt(12)) : upTo(242);
                call("burst", from, length, chance(50) ? 0 : upTo(16));
                break;
        }
    }

    private void damageOfABlock() {
        int files = model.files();
        int file = random.nextInt(8);
        if ((files & 1 << file) == 0) {
            return;
        }
        int block = random.nextInt(model.file(file, 4));
        int size = 8 + model.file(file, 1);
        for (int i = random.nextInt(model.file(file, 1) + 1); i > 0; i--) {
            int cell = model.cellOf(file, block, random.nextInt(size));
            if (chance(60)) {
                call("flip", cell, 1 + random.nextInt(15));
            } else {
                call("erase", cell);
            }
        }
        askOfBlock(file, block);
    }

    private void changeOther() {
        int file = someFile();
        switch (random.nextInt(16)) {
            case 0:
                call("remove", file);
                break;
            case 1:
            case 2:
            case 3:
                call("advance", chance(90) ? 1 + random.nextInt(3) : 1 + upTo(100));
                break;
            case 4:
            case 5:
                call("repair", file, someBlock(file));
                break;
            case 6:
            case 7:
                call("undo");
                break;
            case 8:
                call("save");
                break;
            case 9:
                call(chance(30) ? "restore" : chance(10) ? "clear" : "save");
                break;
            case 10:
                call("advance", 1);
                call("scrub", model.needed() - (chance(30) ? 1 : 0));
                break;
            default:
                call("scrub", chance(70) ? random.nextInt(12) : upTo(201));
                break;
        }
    }

    private void askOfBlock(int file, int block) {
        call("decoded", file, block, upTo(3));
        call("decoded", file, block, 2);
        call("found", file, block, upTo(14));
        call("sum", file, block, upTo(6));
        call("margin", file, block);
        call("checked", file, block);
        call("cellOf", file, block, upTo(14));
    }

    private void askOfFile() {
        int file = someFile();
        switch (random.nextInt(9)) {
            case 0:
                call("file", file, upTo(7));
                break;
            case 1:
                call("read", file, upTo(32));
                break;
            case 2:
                call("condition", file);
                break;
            case 3:
                call("undecodable", file);
                break;
            case 4:
                call("burstLimit", file);
                break;
            case 5:
                call("describe", file, upTo(38) - 1);
                break;
            case 6:
                call("wrong", chance(30) ? -1 : file);
                break;
            case 7:
                call("erased", chance(30) ? -1 : file);
                break;
            default:
                askOfBlock(file, someBlock(file));
                break;
        }
    }

    private void askOther() {
        switch (random.nextInt(7)) {
            case 0:
                call("report", upTo(Math.max(1, model.reportLines())), upTo(4));
                break;
            case 1:
                call("account", upTo(8));
                break;
            case 2:
                call("owner", someCell());
                break;
            case 3:
                call("placeOf", someCell());
                break;
            case 4:
                call("symbol", someCell());
                break;
            case 5:
                call("isErased", someCell());
                break;
            default:
                String[] names = {"errorPosition", "files", "room", "reportLines", "nextToCheck", "needed", "day",
                    "health"};
                call(names[random.nextInt(names.length)]);
                break;
        }
    }

    private void askAll() {
        for (String name : new String[] {"files", "room", "day", "needed", "health", "nextToCheck", "reportLines"}) {
            call(name);
        }
        for (int i = 0; i < 8; i++) {
            call("account", i);
            call("condition", i);
        }
        call("wrong", -1);
        call("erased", -1);
        for (int line = 0; line < model.reportLines(); line++) {
            call("report", line, 2);
            call("report", line, 3);
        }
    }

    private boolean run() {
        for (int i = random.nextInt(5); i > 0; i--) {
            type();
        }
        while (!differs && calls.size() < CALLS - 60) {
            int choice = random.nextInt(100);
            if (choice < 3) {
                type();
            } else if (choice < 20) {
                damage();
            } else if (choice < 30) {
                damageOfABlock();
            } else if (choice < 55) {
                changeOther();
            } else if (choice < 80) {
                askOfFile();
            } else {
                askOther();
            }
        }
        askAll();
        return !differs;
    }

    /** Asks for every place of a file that is stored behind a small one. */
    private boolean runLayout(int r, int depth, int length) {
        for (char c : "1*1:7".toCharArray()) {
            call("append", c);
        }
        call("store");
        for (char c : (r + "*" + depth + ":" + HEX.repeat(2).substring(0, length)).toCharArray()) {
            call("append", c);
        }
        call("store");
        call("burstLimit", 1);
        for (int what = 0; what < 7; what++) {
            call("file", 1, what);
        }
        int cells = model.file(1, 6);
        for (int cell = 8; cell < 10 + cells; cell++) {
            call("symbol", cell);
            call("placeOf", cell);
        }
        for (int block = 0; block < model.file(1, 4); block++) {
            for (int position = 0; position < 8 + r; position++) {
                call("cellOf", 1, block, position);
            }
        }
        return !differs;
    }

    private static int wrongLayouts() {
        int wrong = 0;
        for (int r = 1; r <= 6; r++) {
            for (int depth = 1; depth <= 4; depth++) {
                for (int length = 1; length <= 32; length++) {
                    wrong += new ModelTest(0).runLayout(r, depth, length) ? 0 : 1;
                }
            }
        }
        System.out.println("all layouts against the model: " + wrong + " differ");
        return wrong;
    }

    public static void main(String[] args) {
        int wrong = wrongLayouts();
        for (int seed = 1; seed <= OBJECTS; seed++) {
            if (!new ModelTest(seed).run()) {
                System.out.println("with the seed " + seed);
                wrong++;
            }
        }
        System.out.println(OBJECTS + " objects against the model; in all " + wrong + " differ");
        System.exit(wrong == 0 ? 0 : 1);
    }
}
