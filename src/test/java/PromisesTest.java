import java.util.NoSuchElementException;
import java.util.function.IntBinaryOperator;
import java.util.function.IntUnaryOperator;

/** Tests each promise of the document with answers that were worked out by hand; prints each wrong answer. */
public final class PromisesTest {
    private static int asked = 0;
    private static int wrong = 0;
    private static int promise = 0;

    private static final Class<IllegalArgumentException> ARGUMENT = IllegalArgumentException.class;
    private static final Class<IllegalStateException> STATE = IllegalStateException.class;
    private static final Class<IndexOutOfBoundsException> BOUNDS = IndexOutOfBoundsException.class;
    private static final Class<NoSuchElementException> NONE = NoSuchElementException.class;
    private static final Class<UnsupportedOperationException> UNSUPPORTED = UnsupportedOperationException.class;
    private static final Class<ArithmeticException> ARITHMETIC = ArithmeticException.class;

    private static final int MIN = Integer.MIN_VALUE;
    private static final int MAX = Integer.MAX_VALUE;

    private interface Call {
        double run();
    }

    private static void due(String call, double got, double want) {
        asked++;
        if (got != want) {
            wrong++;
            System.out.println("promise " + promise + ": " + call + " answered " + got + ", due is " + want);
        }
    }

    private static void due(String call, boolean got, boolean want) {
        due(call, got ? 1 : 0, want ? 1 : 0);
    }

    private static void dueThrown(String call, Class<?> kind, Call run) {
        asked++;
        String got;
        try {
            got = "answered " + run.run();
        } catch (RuntimeException e) {
            if (e.getClass() == kind) {
                return;
            }
            got = "threw " + e;
        }
        wrong++;
        System.out.println("promise " + promise + ": " + call + " " + got + ", due is " + kind.getName());
    }

    private static void type(InterleavedArchive x, String text) {
        for (int i = 0; i < text.length(); i++) {
            x.append(text.charAt(i));
        }
    }

    private static int put(InterleavedArchive x, String text) {
        type(x, text);
        return x.store();
    }

    private static InterleavedArchive with(String... texts) {
        InterleavedArchive x = new InterleavedArchive();
        for (String text : texts) {
            put(x, text);
        }
        return x;
    }

    private static String symbols(int count) {
        StringBuilder text = new StringBuilder();
        for (int i = 0; i < count; i++) {
            text.append("0123456789abcdef".charAt((i * 7 + 3) % 16));
        }
        return text.toString();
    }

    private static void dueBadFiles(String call, IntUnaryOperator run) {
        for (int file : new int[] {-2, 1, 7, 8, MIN, MAX}) {
            dueThrown(call + " of file " + file, BOUNDS, () -> run.applyAsInt(file));
        }
    }

    private static void dueBadBlocks(String call, IntBinaryOperator run) {
        for (int file : new int[] {-1, 1, 8, MIN, MAX}) {
            dueThrown(call + " of file " + file, BOUNDS, () -> run.applyAsInt(file, 0));
        }
        for (int block : new int[] {-1, 2, 4, MIN, MAX}) {
            dueThrown(call + " of block " + block, BOUNDS, () -> run.applyAsInt(0, block));
        }
    }

    private static void dueBadCells(String call, IntUnaryOperator run) {
        for (int cell : new int[] {-1, 240, MIN, MAX}) {
            dueThrown(call + " of cell " + cell, BOUNDS, () -> run.applyAsInt(cell));
        }
    }

    // ---- files

    private static void promise1() {
        InterleavedArchive x = new InterleavedArchive();
        due("files", x.files(), 0);
        due("room", x.room(), 240);
        due("day", x.day(), 0);
        due("needed", x.needed(), 0);
        due("reportLines", x.reportLines(), 0);
        for (int account = 0; account < 8; account++) {
            due("account", x.account(account), 0);
        }
        due("wrong", x.wrong(-1), 0);
        due("erased", x.erased(-1), 0);
        due("symbol", x.symbol(0), 0);
        due("owner", x.owner(239), -1);
        dueThrown("errorPosition", NONE, x::errorPosition);
        dueThrown("undo", NONE, x::undo);
        dueThrown("restore", STATE, x::restore);
        dueThrown("file", BOUNDS, () -> x.file(0, 0));
        due("append", x.append('1'), 1);
    }

    private static void promise2() {
        InterleavedArchive x = new InterleavedArchive();
        due("clear without files", x.clear(), 0);
        put(x, "2*1:12");
        put(x, "1*1:3");
        x.save();
        x.erase(5);
        x.flip(200, 3);
        x.advance(7);
        x.scrub(200);
        x.remove(0);
        put(x, "1*1:4");
        type(x, "zz");
        dueThrown("store", ARGUMENT, x::store);
        type(x, "1*");
        due("clear", x.clear(), 2);
        due("files", x.files(), 0);
        due("room", x.room(), 240);
        due("day", x.day(), 0);
        due("symbol", x.symbol(0) + x.symbol(200) + x.symbol(10), 0);
        due("erased", x.erased(-1), 0);
        due("wrong", x.wrong(-1), 0);
        for (int account = 0; account < 8; account++) {
            due("account", x.account(account), 0);
        }
        dueThrown("undo", NONE, x::undo);
        due("reportLines", x.reportLines(), 2);
        due("errorPosition", x.errorPosition(), 0);
        due("append", x.append('1'), 3);
        type(x, ":5");
        due("store", x.store(), 0);
        due("restore", x.restore(), 2);
        due("account", x.account(7), 19);
    }

    private static void promise3() {
        InterleavedArchive x = new InterleavedArchive();
        due("append a blank", x.append(' '), 1);
        due("append a tilde", x.append('~'), 2);
        for (char bad : new char[] {0, 31, 127, 233, 0xffff}) {
            dueThrown("append the code " + (int) bad, ARGUMENT, () -> x.append(bad));
        }
        for (int length = 3; length <= 60; length++) {
            due("append", x.append('a'), length);
        }
        dueThrown("append to 60", STATE, () -> x.append('a'));
        dueThrown("append a wrong one to 60", ARGUMENT, () -> x.append((char) 31));
        dueThrown("store", ARGUMENT, x::store);
        due("append behind store", x.append('a'), 1);
        dueThrown("undo", NONE, x::undo);
    }

    private static void promise4() {
        InterleavedArchive x = new InterleavedArchive();
        due("store", put(x, "2*1:1"), 0);
        int[] sound = {2, 3, 1, 0, 0, 0, 0, 0, 0, 0};
        for (int i = 0; i < sound.length; i++) {
            due("symbol", x.symbol(i), sound[i]);
        }
        due("append behind store", x.append('1'), 1);
        type(x, "*1:9");
        due("store", x.store(), 1);
        due("first cell", x.file(1, 5), 10);
        due("account", x.account(7), 19);
        x.erase(3);
        x.flip(4, 5);
        due("remove", x.remove(0), 1);
        due("store at the free place", put(x, "1*4:f"), 0);
        due("first cell", x.file(0, 5), 0);
        due("erased", x.erased(-1), 0);
        due("wrong", x.wrong(-1), 0);
        due("symbol behind the new file", x.symbol(9), 0);
        x.remove(0);
        due("store what does not fit between", put(x, "3*1:1"), 0);
        due("first cell", x.file(0, 5), 19);
        due("store all 32", put(x, "6*4:" + symbols(32)), 2);
        due("first cell", x.file(2, 5), 30);
        due("cells", x.file(2, 6), 56);
        x.advance(9);
        due("checked", x.checked(put(x, "1*1:1"), 0), 9);
        storeWithoutPlace();
        storeBadTexts();
        storeCheckSymbols();
    }

    private static void storeCheckSymbols() {
        int[][] checks = {{8}, {8, 0}, {1, 0, 9}, {15, 7, 3, 3}, {5, 11, 11, 10, 7}, {15, 12, 8, 15, 15, 3}};
        int[][] checksOfLast = {{15}, {13, 2}, {1, 5, 11}, {8, 15, 2, 10}, {11, 10, 9, 15, 8}, {15, 2, 9, 13, 10, 12}};
        for (int r = 1; r <= 6; r++) {
            InterleavedArchive x = with(r + "*2:12345678f");
            for (int i = 0; i < r; i++) {
                due("check symbol " + i + " of " + r, x.symbol(2 * i), checks[r - 1][i]);
                due("check symbol " + i + " of " + r, x.symbol(2 * i + 1), checksOfLast[r - 1][i]);
            }
            due("data symbol", x.symbol(2 * r), 1);
            due("data symbol", x.symbol(2 * r + 1), 15);
            due("missing symbol", x.symbol(2 * r + 3), 0);
        }
    }

    private static void storeWithoutPlace() {
        InterleavedArchive x = with("1*1:1", "1*1:2", "1*1:3", "1*1:4", "1*1:5", "1*1:6", "1*1:7", "1*1:8");
        type(x, "1*1:9");
        dueThrown("store a ninth", STATE, x::store);
        due("append behind it", x.append('1'), 1);
        dueThrown("store a wrong ninth", ARGUMENT, x::store);
        due("account", x.account(7), 72);
        due("remove", x.remove(5), 7);
        due("store in the gap", put(x, "1*1:9"), 5);
        due("first cell", x.file(5, 5), 45);

        InterleavedArchive y = with("6*1:" + symbols(32), "6*1:" + symbols(25), "6*1:" + symbols(32),
                "6*1:" + symbols(32));
        due("room", y.room(), 16);
        type(y, "1*1:" + symbols(9));
        dueThrown("store without an area", STATE, y::store);
        dueThrown("errorPosition", NONE, y::errorPosition);
        due("files", y.files(), 15);
        due("undo", y.undo(), 3);
        due("store", put(y, "6*1:1"), 3);
        due("store", put(y, "6*1:" + symbols(16)), 4);
        due("store up to the last cell", put(y, "6*1:" + symbols(16)), 5);
        due("last cell", y.owner(237), 5);
    }

    private static void storeBadTexts() {
        String[] bad = {"", "0*1:1", "7*1:1", "1:1:1", "1*0:1", "1*5:1", "1*1*1", "1*1:", "1*1:g", "1*1:A", "1*1:1 ",
            " 1*1:1", "1*1:" + symbols(33), "1", "1*", "1*1", "6*4:0123456789/", "1*1:12:"};
        int[] position = {0, 0, 0, 1, 2, 2, 3, 4, 4, 4, 5, 0, 36, 1, 2, 3, 14, 6};
        InterleavedArchive x = new InterleavedArchive();
        for (int i = 0; i < bad.length; i++) {
            type(x, bad[i]);
            dueThrown("store " + bad[i], ARGUMENT, x::store);
            promise = 5;
            due("errorPosition of " + bad[i], x.errorPosition(), position[i]);
            promise = 4;
            due("append", x.append('q'), 1);
            dueThrown("store", ARGUMENT, x::store);
        }
        due("files", x.files(), 0);
        dueThrown("undo", NONE, x::undo);
    }

    private static void promise5() {
        InterleavedArchive x = new InterleavedArchive();
        dueThrown("errorPosition", NONE, x::errorPosition);
        put(x, "1*1:1");
        dueThrown("errorPosition", NONE, x::errorPosition);
        x.save();
        type(x, "1*1:2x3x");
        dueThrown("store", ARGUMENT, x::store);
        due("errorPosition", x.errorPosition(), 5);
        put(x, "1*1:1");
        due("errorPosition", x.errorPosition(), 5);
        x.undo();
        due("errorPosition behind undo", x.errorPosition(), 5);
        x.restore();
        due("errorPosition behind restore", x.errorPosition(), 5);
        x.clear();
        due("errorPosition behind clear", x.errorPosition(), 5);
        dueThrown("store nothing", ARGUMENT, x::store);
        due("errorPosition", x.errorPosition(), 0);
        type(x, "1*1:" + symbols(32) + "00");
        dueThrown("store", ARGUMENT, x::store);
        due("errorPosition", x.errorPosition(), 36);
    }

    private static void promise6() {
        InterleavedArchive x = with("2*1:1");
        x.erase(1);
        x.flip(2, 4);
        dueBadFiles("remove", x::remove);
        dueThrown("remove -1", BOUNDS, () -> x.remove(-1));
        due("remove", x.remove(0), 0);
        due("files", x.files(), 0);
        due("symbol", x.symbol(0), 2);
        due("symbol", x.symbol(2), 5);
        due("erased", x.erased(-1), 1);
        due("wrong", x.wrong(-1), 1);
        due("owner", x.owner(0), -1);
        due("room", x.room(), 240);
        dueThrown("remove again", BOUNDS, () -> x.remove(0));
        due("undo", x.undo(), 3);
        due("files", x.files(), 1);
        put(x, "1*1:1");
        due("remove", x.remove(0), 1);
        due("files", x.files(), 2);
    }

    private static void promise7() {
        InterleavedArchive x = with("2*3:12");
        int[] want = {2, 2, 3, 57, 1, 0, 10};
        for (int what = 0; what <= 6; what++) {
            due("file what " + what, x.file(0, what), want[what]);
        }
        put(x, "5*2:" + symbols(17));
        int[] wantNext = {17, 5, 2, x.file(1, 3), 3, 10, 39};
        for (int what = 0; what <= 6; what++) {
            due("file what " + what, x.file(1, what), wantNext[what]);
        }
        put(x, "1*1:00000000000000000000000000000000");
        int seal = 1;
        for (int i = 0; i < 32; i++) {
            seal = seal * 17 % 251;
        }
        due("seal of zeros", x.file(2, 3), seal);
        due("blocks", x.file(2, 4), 4);
        put(x, "1*1:00000000");
        due("blocks of 8", x.file(3, 4), 1);
        put(x, "1*1:000000000");
        due("blocks of 9", x.file(4, 4), 2);
        x.clear();
        put(x, "1*1:ffffffffffffffffffffffffffffffff");
        due("seal", x.file(0, 3), 121);
        put(x, "1*1:12345678f");
        due("seal without missing symbols", x.file(1, 3), 110);
        due("missing symbol behind a longer text", x.symbol(x.cellOf(1, 1, 2)), 0);
        x.clear();
        put(x, "2*3:12");
        x.flip(2, 1);
        due("seal of damage", x.file(0, 3), 57);
        for (int what : new int[] {-1, 7, MIN, MAX}) {
            dueThrown("file what " + what, ARGUMENT, () -> x.file(0, what));
            dueThrown("file and what " + what, BOUNDS, () -> x.file(6, what));
        }
        dueThrown("file -1", BOUNDS, () -> x.file(-1, 0));
        dueThrown("file 8", BOUNDS, () -> x.file(8, 0));
    }

    private static void promise8() {
        InterleavedArchive x = new InterleavedArchive();
        for (int i = 0; i < 8; i++) {
            put(x, "1*1:1");
            due("files", x.files(), (1 << i + 1) - 1);
        }
        x.remove(0);
        x.remove(6);
        due("files", x.files(), 0b10111110);
    }

    private static void promise9() {
        InterleavedArchive x = with("1*1:1", "1*2:" + symbols(17));
        for (int i = 0; i < 9; i++) {
            due("cellOf", x.cellOf(0, 0, i), i);
            due("cellOf", x.cellOf(1, 0, i), 9 + 2 * i);
            due("cellOf", x.cellOf(1, 1, i), 10 + 2 * i);
            due("cellOf", x.cellOf(1, 2, i), 27 + i);
        }
        due("store", put(x, "2*4:" + symbols(24)), 2);
        due("cellOf in a group below the depth", x.cellOf(2, 2, 9), 36 + 29);
        due("store", put(x, "6*3:" + symbols(32)), 3);
        due("cellOf", x.cellOf(3, 1, 13), 66 + 40);
        due("cellOf", x.cellOf(3, 3, 13), 66 + 55);
        for (int bad : new int[] {-1, 9, MIN, MAX}) {
            dueThrown("cellOf position " + bad, BOUNDS, () -> x.cellOf(1, 0, bad));
            dueThrown("cellOf block " + bad, BOUNDS, () -> x.cellOf(1, bad, 0));
            dueThrown("cellOf file " + bad, BOUNDS, () -> x.cellOf(bad, 0, 0));
        }
        dueThrown("cellOf block 3", BOUNDS, () -> x.cellOf(1, 3, 0));
        dueThrown("cellOf file 4", BOUNDS, () -> x.cellOf(4, 0, 0));
    }

    private static void promise10() {
        InterleavedArchive x = with("1*1:1", "1*2:" + symbols(17));
        due("owner", x.owner(0), 0);
        due("owner", x.owner(8), 0);
        due("owner", x.owner(9), 1);
        due("owner", x.owner(35), 1);
        due("owner", x.owner(36), -1);
        due("owner", x.owner(239), -1);
        x.remove(0);
        due("owner", x.owner(8), -1);
        dueBadCells("owner", x::owner);
    }

    private static void promise11() {
        InterleavedArchive x = with("1*1:1", "1*2:" + symbols(17));
        due("placeOf", x.placeOf(0), 0);
        due("placeOf", x.placeOf(8), 8);
        due("placeOf", x.placeOf(9), 0);
        due("placeOf", x.placeOf(10), 100);
        due("placeOf", x.placeOf(25), 8);
        due("placeOf", x.placeOf(26), 108);
        due("placeOf", x.placeOf(27), 200);
        due("placeOf", x.placeOf(35), 208);
        dueThrown("placeOf a free cell", NONE, () -> x.placeOf(36));
        dueBadCells("placeOf", x::placeOf);
        put(x, "6*3:" + symbols(32));
        for (int block = 0; block < 4; block++) {
            for (int position = 0; position < 14; position++) {
                due("placeOf", x.placeOf(x.cellOf(2, block, position)), 100 * block + position);
            }
        }
    }

    private static void promise12() {
        InterleavedArchive x = with("1*1:" + symbols(32), "6*1:" + symbols(32), "6*1:" + symbols(32));
        due("room", x.room(), 92);
        x.remove(1);
        due("room", x.room(), 92);
        x.remove(0);
        due("room at the beginning", x.room(), 92);
        x.erase(239);
        put(x, "1*1:1");
        due("room", x.room(), 92);
        x.remove(2);
        due("room", x.room(), 231);
        x.clear();
        for (int i = 0; i < 8; i++) {
            put(x, i < 7 ? "2*1:" + symbols(24) : "2*1:" + symbols(17));
        }
        due("room of none", x.room(), 0);
        x.remove(3);
        due("room between", x.room(), 30);
    }

    // ---- cells and damage

    private static void promise13() {
        InterleavedArchive x = with("2*1:1");
        due("symbol", x.symbol(1), 3);
        x.erase(1);
        due("symbol that is erased", x.symbol(1), 3);
        x.flip(1, 15);
        due("symbol", x.symbol(1), 12);
        due("symbol", x.symbol(239), 0);
        dueBadCells("symbol", x::symbol);
    }

    private static void promise14() {
        InterleavedArchive x = with("2*1:1");
        due("isErased", x.isErased(1), false);
        x.erase(1);
        due("isErased", x.isErased(1), true);
        x.erase(239);
        due("isErased", x.isErased(239), true);
        due("isErased", x.isErased(238), false);
        x.flip(1, 2);
        due("isErased behind a flip", x.isErased(1), true);
        x.repair(0, 0);
        due("isErased behind a repair", x.isErased(1), false);
        dueBadCells("isErased", cell -> x.isErased(cell) ? 1 : 0);
    }

    private static void promise15() {
        InterleavedArchive x = with("2*1:1");
        due("flip", x.flip(0, 7), 5);
        due("flip", x.flip(0, 7), 2);
        due("wrong", x.wrong(0), 0);
        due("flip", x.flip(239, 15), 15);
        due("flip", x.flip(239, 1), 14);
        due("undo", x.undo(), 4);
        due("symbol", x.symbol(239), 15);
        for (int difference : new int[] {0, -1, 16, MIN, MAX}) {
            dueThrown("flip by " + difference, ARGUMENT, () -> x.flip(0, difference));
            dueThrown("flip no cell by " + difference, BOUNDS, () -> x.flip(240, difference));
        }
        dueBadCells("flip", cell -> x.flip(cell, 1));
        due("undo", x.undo(), 3);
    }

    private static void promise16() {
        InterleavedArchive x = with("2*1:1");
        due("erase", x.erase(0), 1);
        due("erase again", x.erase(0), 0);
        due("erase", x.erase(239), 1);
        due("symbol", x.symbol(0), 2);
        due("erased", x.erased(-1), 2);
        due("undo", x.undo(), 3);
        due("undo", x.undo(), 2);
        due("undo", x.undo(), 1);
        due("erase after undo", x.erase(0), 1);
        dueBadCells("erase", x::erase);
        due("undo", x.undo(), 1);
    }

    private static void promise17() {
        InterleavedArchive x = with("2*1:1", "1*1:1");
        due("burst", x.burst(8, 3, 0), 3);
        due("erased", x.erased(0), 2);
        due("erased", x.erased(1), 1);
        due("burst again", x.burst(8, 3, 0), 3);
        due("burst at the end of the files", x.burst(17, 4, 5), 2);
        due("symbol", x.symbol(17), 5);
        due("symbol", x.symbol(20), 5);
        due("symbol", x.symbol(21), 0);
        due("isErased", x.isErased(17), false);
        due("burst of all", x.burst(0, 240, 15), 19);
        due("wrong", x.wrong(-1), 240);
        due("burst of the last", x.burst(239, 1, 0), 0);
        due("isErased", x.isErased(239), true);
        due("undo", x.undo(), 5);
        due("isErased", x.isErased(239), false);
        for (int bad : new int[] {0, -1, 3, MIN, MAX}) {
            dueThrown("burst of length " + bad, ARGUMENT, () -> x.burst(238, bad, 1));
            dueThrown("burst of no cell", BOUNDS, () -> x.burst(240, bad, 1));
        }
        for (int bad : new int[] {-1, 16, MIN, MAX}) {
            dueThrown("burst of kind " + bad, ARGUMENT, () -> x.burst(0, 1, bad));
            dueThrown("burst of no cell", BOUNDS, () -> x.burst(-1, 1, bad));
        }
        dueThrown("burst beyond the last cell", ARGUMENT, () -> x.burst(0, 241, 0));
        dueBadCells("burst", cell -> x.burst(cell, 1, 1));
        due("undo", x.undo(), 4);
    }

    private static void promise18() {
        InterleavedArchive x = with("2*1:1");
        x.flip(0, 1);
        x.flip(9, 1);
        x.flip(10, 1);
        due("wrong", x.wrong(0), 2);
        due("wrong of all", x.wrong(-1), 3);
        x.erase(0);
        x.erase(1);
        due("wrong counts erased ones that are wrong", x.wrong(0), 2);
        x.flip(0, 1);
        due("wrong", x.wrong(0), 1);
        x.remove(0);
        due("wrong of cells without files", x.wrong(-1), 2);
        put(x, "1*1:1");
        due("wrong behind storing", x.wrong(-1), 2);
        due("wrong", x.wrong(0), 0);
        dueBadFiles("wrong", x::wrong);
    }

    private static void promise19() {
        InterleavedArchive x = with("2*1:1");
        x.burst(9, 2, 0);
        due("erased", x.erased(0), 1);
        due("erased of all", x.erased(-1), 2);
        x.remove(0);
        due("erased of all", x.erased(-1), 2);
        put(x, "2*1:1");
        due("erased of all", x.erased(-1), 1);
        due("erased", x.erased(0), 0);
        dueBadFiles("erased", x::erased);
    }

    // ---- decoding

    private static void promise20() {
        InterleavedArchive x = with("2*1:1" + symbols(8));
        due("sum", x.sum(0, 0, 0), 0);
        due("sum", x.sum(0, 0, 1), 0);
        x.flip(3, 7);
        due("sum", x.sum(0, 0, 0), 7);
        due("sum", x.sum(0, 0, 1), 13);
        x.erase(3);
        due("sum with an erased one", x.sum(0, 0, 1), 13);
        x.flip(10, 9);
        due("sum", x.sum(0, 1, 1), 9);
        for (int j : new int[] {-1, 2, 6, MIN, MAX}) {
            dueThrown("sum j " + j, BOUNDS, () -> x.sum(0, 0, j));
        }
        dueBadBlocks("sum", (file, block) -> x.sum(file, block, 0));
        put(x, "6*1:f");
        x.flip(20 + 13, 1);
        int[] powers = {1, 13, 14, 10, 11, 6};
        for (int j = 0; j < 6; j++) {
            due("sum j " + j, x.sum(1, 0, j), powers[j]);
        }
    }

    private static void promise21() {
        InterleavedArchive x = with("2*1:1" + symbols(8));
        due("decoded", x.decoded(0, 0, 0), 0);
        due("decoded", x.decoded(0, 0, 1), 0);
        due("decoded", x.decoded(0, 0, 2), 0);
        x.flip(9, 4);
        due("errors", x.decoded(0, 0, 1), 1);
        due("error positions", x.decoded(0, 0, 2), 1 << 9);
        due("errors of the other", x.decoded(0, 1, 1), 0);
        x.erase(9);
        due("erasures", x.decoded(0, 0, 0), 1);
        due("an erased one is no error", x.decoded(0, 0, 1), 0);
        x.erase(0);
        due("erasures", x.decoded(0, 0, 0), 2);
        due("errors", x.decoded(0, 0, 2), 0);
        x.erase(1);
        due("erasures of what cannot be decoded", x.decoded(0, 0, 0), 3);
        dueThrown("errors", NONE, () -> x.decoded(0, 0, 1));
        dueThrown("errors", NONE, () -> x.decoded(0, 0, 2));
        for (int what : new int[] {-1, 3, MIN, MAX}) {
            dueThrown("decoded what " + what, ARGUMENT, () -> x.decoded(0, 0, what));
            dueThrown("decoded no block", BOUNDS, () -> x.decoded(0, 2, what));
        }
        dueBadBlocks("decoded", (file, block) -> x.decoded(file, block, 0));
        InterleavedArchive y = with("6*1:123");
        y.flip(0, 1);
        y.flip(7, 15);
        y.flip(13, 8);
        due("errors", y.decoded(0, 0, 1), 3);
        due("error positions", y.decoded(0, 0, 2), 1 | 1 << 7 | 1 << 13);
        y.erase(7);
        y.erase(8);
        due("erasures", y.decoded(0, 0, 0), 2);
        due("error positions", y.decoded(0, 0, 2), 1 | 1 << 13);
        InterleavedArchive z = with("1*1:5");
        z.flip(3, 2);
        due("erasures", z.decoded(0, 0, 0), 0);
        dueThrown("one check symbol corrects no error", NONE, () -> z.decoded(0, 0, 1));
    }

    private static void promise22() {
        InterleavedArchive x = with("2*1:1" + symbols(8));
        int[] sound = {14, 11, 1, 3, 10, 1, 8, 15, 6, 13};
        x.flip(0, 2);
        due("symbol of the error", x.symbol(0), 12);
        for (int i = 0; i < 10; i++) {
            due("found", x.found(0, 0, i), sound[i]);
        }
        due("found of the other", x.found(0, 1, 2), 4);
        due("found of a missing one", x.found(0, 1, 9), 0);
        x.burst(0, 3, 0);
        dueThrown("found", NONE, () -> x.found(0, 0, 0));
        for (int position : new int[] {-1, 10, MIN, MAX}) {
            dueThrown("found position " + position, BOUNDS, () -> x.found(0, 0, position));
        }
        dueBadBlocks("found", (file, block) -> x.found(file, block, 0));
        InterleavedArchive y = with("1*1:12345678");
        y.erase(4);
        y.flip(4, 9);
        due("found of an erased one", y.found(0, 0, 4), 4);
        y.flip(1, 8);
        due("found of a wrong correction", y.found(0, 0, 4), 4 ^ 8);
        due("found of a wrong correction", y.found(0, 0, 1), 1 ^ 8);
    }

    private static void promise23() {
        InterleavedArchive x = with("2*2:1" + symbols(8));
        due("read", x.read(0, 0), 1);
        due("read", x.read(0, 7), 13);
        due("read", x.read(0, 8), 4);
        x.erase(x.cellOf(0, 0, 2));
        x.flip(x.cellOf(0, 0, 2), 6);
        due("read an erased one", x.read(0, 0), 1);
        x.flip(x.cellOf(0, 1, 2), 6);
        due("read an error", x.read(0, 8), 4);
        x.erase(x.cellOf(0, 0, 3));
        x.erase(x.cellOf(0, 0, 4));
        dueThrown("read", NONE, () -> x.read(0, 0));
        due("read of the other block", x.read(0, 8), 4);
        for (int index : new int[] {-1, 9, 16, MIN, MAX}) {
            dueThrown("read index " + index, BOUNDS, () -> x.read(0, index));
        }
        dueBadFiles("read", file -> x.read(file, 0));
        dueThrown("read of file -1", BOUNDS, () -> x.read(-1, 0));
    }

    private static void promise24() {
        InterleavedArchive x = with("2*1:1" + symbols(8));
        due("condition", x.condition(0), 0);
        x.erase(12);
        due("condition of an erasure", x.condition(0), 1);
        x.erase(13);
        due("condition", x.condition(0), 1);
        x.erase(14);
        due("condition", x.condition(0), 3);
        x.undo();
        x.undo();
        x.undo();
        x.flip(0, 1);
        due("condition of an error in a check symbol", x.condition(0), 1);
        dueBadFiles("condition", x::condition);
        dueThrown("condition of -1", BOUNDS, () -> x.condition(-1));
        InterleavedArchive y = with("1*1:12345678");
        y.flip(1, 6);
        due("condition", y.condition(0), 3);
        y.flip(2, 6);
        due("condition of sound blocks with another seal", y.condition(0), 2);
        due("margin", y.margin(0, 0), 1);
        y.erase(0);
        due("condition", y.condition(0), 2);
        y.flip(1, 6);
        y.flip(2, 6);
        due("condition", y.condition(0), 1);
        y.repair(0, 0);
        due("condition", y.condition(0), 0);
        InterleavedArchive z = with("1*1:1");
        z.flip(8, 3);
        z.flip(7, 3);
        due("condition by missing symbols", z.condition(0), 0);
        due("wrong", z.wrong(0), 2);
    }

    private static void promise25() {
        InterleavedArchive x = with("1*1:" + symbols(32));
        due("undecodable", x.undecodable(0), 0);
        x.flip(35, 1);
        due("undecodable", x.undecodable(0), 8);
        x.erase(0);
        due("undecodable", x.undecodable(0), 8);
        x.erase(1);
        due("undecodable", x.undecodable(0), 9);
        x.burst(0, 36, 0);
        due("undecodable", x.undecodable(0), 15);
        dueBadFiles("undecodable", x::undecodable);
        dueThrown("undecodable of -1", BOUNDS, () -> x.undecodable(-1));
    }

    private static void promise26() {
        InterleavedArchive x = with("6*1:" + symbols(9));
        due("margin", x.margin(0, 0), 6);
        x.flip(3, 4);
        due("margin", x.margin(0, 0), 4);
        x.erase(4);
        due("margin", x.margin(0, 0), 3);
        x.erase(3);
        due("margin", x.margin(0, 0), 4);
        due("margin", x.margin(0, 1), 6);
        x.burst(7, 4, 0);
        due("margin", x.margin(0, 0), 0);
        x.erase(12);
        dueThrown("margin", NONE, () -> x.margin(0, 0));
        dueBadBlocks("margin", x::margin);
    }

    private static void promise27() {
        String[] texts = {"1*1:1", "6*1:1", "1*2:" + symbols(16), "1*2:" + symbols(17), "6*4:" + symbols(32),
            "1*3:" + symbols(32)};
        int[] limits = {1, 6, 2, 1, 24, 1};
        InterleavedArchive x = with(texts);
        for (int i = 0; i < texts.length; i++) {
            due("burstLimit of " + texts[i], x.burstLimit(i), limits[i]);
        }
        x.burst(0, 240, 0);
        due("burstLimit of damage", x.burstLimit(4), 24);
        dueThrown("burstLimit of 6", BOUNDS, () -> x.burstLimit(6));
        dueThrown("burstLimit of -1", BOUNDS, () -> x.burstLimit(-1));
        dueThrown("burstLimit of 8", BOUNDS, () -> x.burstLimit(8));
        InterleavedArchive y = with("3*2:" + symbols(32), "4*2:" + symbols(17), "3*3:" + symbols(17));
        due("burstLimit across groups", y.burstLimit(0), 6);
        due("burstLimit of a smaller last group", y.burstLimit(1), 4);
        due("burstLimit of a whole group", y.burstLimit(2), 9);
    }

    // ---- days, scrubbing and accounts

    private static void promise28() {
        InterleavedArchive x = new InterleavedArchive();
        due("advance", x.advance(1), 1);
        due("advance", x.advance(100), 101);
        for (int days : new int[] {0, -1, 101, MIN, MAX}) {
            dueThrown("advance " + days, ARGUMENT, () -> x.advance(days));
        }
        due("undo", x.undo(), 1);
        due("day", x.day(), 1);
        for (int i = 0; i < 99; i++) {
            x.advance(100);
        }
        due("advance", x.advance(98), 9999);
        dueThrown("advance beyond 10000", STATE, () -> x.advance(2));
        dueThrown("advance by too many", ARGUMENT, () -> x.advance(101));
        due("advance", x.advance(1), 10000);
        dueThrown("advance beyond 10000", STATE, () -> x.advance(1));
        due("day", x.day(), 10000);
        due("undo", x.undo(), 5);
    }

    private static void promise29() {
        InterleavedArchive x = with("2*1:" + symbols(16), "1*1:1");
        due("scrub on the day of storing", x.scrub(200), 200);
        due("reportLines", x.reportLines(), 0);
        x.advance(1);
        due("scrub with 0", x.scrub(0), 0);
        due("scrub with 1", x.scrub(1), 0);
        due("checked", x.checked(0, 0), 1);
        due("checked", x.checked(0, 1), 0);
        x.flip(12, 7);
        x.erase(20);
        x.erase(21);
        x.erase(22);
        due("scrub with a repair and a loss", x.scrub(4), 1);
        due("checked", x.checked(0, 1), 1);
        due("checked", x.checked(1, 0), 1);
        due("wrong", x.wrong(0), 0);
        due("erased", x.erased(1), 3);
        due("condition", x.condition(0), 0);
        due("reportLines", x.reportLines(), 2);
        due("scrub with 0", x.scrub(0), 0);
        due("reportLines behind it", x.reportLines(), 0);
        due("scrub again", x.scrub(9), 9);
        int[] accounts = {1, 1, 1, 0, 1, 0, 4, 30};
        for (int account = 0; account < 8; account++) {
            due("account " + account, x.account(account), accounts[account]);
        }
        for (int budget : new int[] {-1, 201, MIN, MAX}) {
            dueThrown("scrub " + budget, ARGUMENT, () -> x.scrub(budget));
        }
        due("undo", x.undo(), 5);
        scrubWithPostponing();
        scrubByAge();
    }

    private static void scrubWithPostponing() {
        InterleavedArchive x = with("6*1:" + symbols(16), "1*1:1");
        x.advance(5);
        x.burst(0, 4, 0);
        x.flip(5, 3);
        due("scrub without enough", x.scrub(5), 4);
        due("checked", x.checked(0, 0), 0);
        due("reportLines", x.reportLines(), 1);
        due("outcome", x.report(0, 2), 3);
        due("damage", x.report(0, 3), 5);
        due("account", x.account(3), 1);
        due("account", x.account(6), 1);
        due("account", x.account(7), 37);
        due("erased", x.erased(0), 4);
        due("nextToCheck", x.nextToCheck(), 0);
        due("scrub with just enough", x.scrub(6), 0);
        due("erased", x.erased(0), 0);
        due("account", x.account(4), 1);
        due("account", x.account(5), 4);
        due("account", x.account(6), 7);
        due("account", x.account(7), 42);
        due("reportLines", x.reportLines(), 1);
        due("outcome", x.report(0, 2), 1);
        x.flip(30, 1);
        x.erase(14);
        due("scrub to a postponed one", x.scrub(1), 0);
        due("outcome", x.report(0, 2), 3);
        due("nextToCheck", x.nextToCheck(), 1);
        due("scrub the rest", x.scrub(200), 197);
        due("reportLines", x.reportLines(), 2);
        due("outcome", x.report(1, 2), 2);
        due("damage of what is lost", x.report(1, 3), 0);
    }

    private static void scrubByAge() {
        InterleavedArchive x = with("1*1:1");
        x.advance(1);
        put(x, "1*1:" + symbols(16));
        x.advance(1);
        put(x, "1*1:2");
        x.remove(0);
        put(x, "1*1:3");
        x.advance(1);
        due("nextToCheck", x.nextToCheck(), 100);
        due("scrub", x.scrub(3), 0);
        int[][] lines = {{1, 0}, {1, 1}, {0, 0}};
        for (int i = 0; i < 3; i++) {
            due("file", x.report(i, 0), lines[i][0]);
            due("block", x.report(i, 1), lines[i][1]);
            due("outcome", x.report(i, 2), 0);
        }
        due("nextToCheck", x.nextToCheck(), 200);
    }

    private static void promise30() {
        InterleavedArchive x = with("2*1:" + symbols(16));
        dueThrown("report without lines", BOUNDS, () -> x.report(0, 0));
        x.advance(3);
        x.flip(15, 2);
        x.scrub(50);
        int[][] want = {{0, 0, 0, 0}, {0, 1, 1, 1}};
        for (int line = 0; line < 2; line++) {
            for (int what = 0; what < 4; what++) {
                due("report " + line + " " + what, x.report(line, what), want[line][what]);
            }
        }
        for (int what : new int[] {-1, 4, MIN, MAX}) {
            dueThrown("report what " + what, ARGUMENT, () -> x.report(0, what));
            dueThrown("report no line", BOUNDS, () -> x.report(2, what));
        }
        for (int line : new int[] {-1, 2, 32, MIN, MAX}) {
            dueThrown("report line " + line, BOUNDS, () -> x.report(line, 0));
        }
        x.undo();
        due("report behind undo", x.report(1, 2), 1);
        x.remove(0);
        due("report behind remove", x.report(1, 2), 1);
        dueThrown("scrub", ARGUMENT, () -> x.scrub(201));
        due("report behind an exception", x.report(1, 3), 1);
    }

    private static void promise31() {
        InterleavedArchive x = with("2*1:" + symbols(32));
        due("reportLines", x.reportLines(), 0);
        x.advance(3);
        x.scrub(3);
        due("reportLines", x.reportLines(), 3);
        x.scrub(3);
        due("reportLines", x.reportLines(), 1);
        x.save();
        x.scrub(3);
        due("reportLines", x.reportLines(), 0);
        x.undo();
        due("reportLines behind undo", x.reportLines(), 0);
        x.advance(1);
        x.scrub(4);
        x.restore();
        due("reportLines behind restore", x.reportLines(), 4);
        x.clear();
        due("reportLines behind clear", x.reportLines(), 4);
        InterleavedArchive y = with("1*1:" + symbols(32), "1*1:" + symbols(32), "1*1:" + symbols(32),
                "1*1:" + symbols(32), "1*1:" + symbols(32), "1*1:" + symbols(32), "1*1:" + symbols(9));
        y.advance(1);
        y.burst(0, 240, 0);
        due("scrub all that there can be", y.scrub(200), 174);
        due("reportLines", y.reportLines(), 26);
        due("the last line", y.report(25, 0) * 100 + y.report(25, 1), 601);
    }

    private static void promise32() {
        InterleavedArchive x = with("2*1:" + symbols(16));
        x.advance(4);
        due("repair of what is sound", x.repair(0, 0), 0);
        x.flip(12, 3);
        due("repair of an error", x.repair(0, 1), 1);
        due("wrong", x.wrong(0), 0);
        x.burst(0, 2, 0);
        due("repair of erasures that are right", x.repair(0, 0), 2);
        due("erased", x.erased(0), 0);
        due("checked", x.checked(0, 0), 0);
        int[] accounts = {0, 0, 0, 0, 0, 0, 0, 23};
        for (int account = 0; account < 8; account++) {
            due("account " + account, x.account(account), accounts[account]);
        }
        due("reportLines", x.reportLines(), 0);
        due("undo", x.undo(), 5);
        due("erased", x.erased(0), 2);
        due("account", x.account(7), 21);
        x.erase(2);
        dueThrown("repair", UNSUPPORTED, () -> x.repair(0, 0));
        due("undo", x.undo(), 5);
        dueBadBlocks("repair", x::repair);
        due("undo", x.undo(), 4);
        InterleavedArchive y = with("1*1:12345678");
        y.flip(1, 6);
        y.erase(2);
        due("repair to a wrong correction", y.repair(0, 0), 1);
        due("symbol", y.symbol(2), 2 ^ 6);
        due("only the error that is not written is wrong", y.wrong(0), 1);
        due("condition", y.condition(0), 2);
        InterleavedArchive z = with("1*1:1");
        due("repair of nothing", z.repair(0, 0), 0);
        due("undo of a repair of nothing", z.undo(), 1);
        z.burst(0, 2, 0);
        dueThrown("repair", UNSUPPORTED, () -> z.repair(0, 0));
        due("undo behind a refused repair", z.undo(), 1);
        due("erased", z.erased(0), 0);
    }

    private static void promise33() {
        InterleavedArchive x = with("2*1:" + symbols(16));
        due("checked", x.checked(0, 0), 0);
        x.advance(100);
        put(x, "1*1:1");
        due("checked", x.checked(1, 0), 100);
        due("checked", x.checked(0, 1), 0);
        x.scrub(1);
        due("checked", x.checked(0, 0), 100);
        due("checked", x.checked(0, 1), 0);
        x.burst(0, 29, 0);
        x.advance(1);
        x.scrub(200);
        due("checked of what is lost", x.checked(0, 1), 101);
        x.remove(1);
        dueBadBlocks("checked", x::checked);
        put(x, "1*1:1");
        due("checked of a new file", x.checked(1, 0), 101);
    }

    private static void promise34() {
        InterleavedArchive x = with("2*1:" + symbols(16), "1*1:1");
        dueThrown("nextToCheck on the day of storing", NONE, x::nextToCheck);
        x.advance(1);
        due("nextToCheck", x.nextToCheck(), 0);
        x.scrub(1);
        due("nextToCheck", x.nextToCheck(), 1);
        x.scrub(1);
        due("nextToCheck", x.nextToCheck(), 100);
        x.remove(0);
        due("nextToCheck", x.nextToCheck(), 100);
        x.scrub(1);
        dueThrown("nextToCheck", NONE, x::nextToCheck);
        x.undo();
        due("nextToCheck", x.nextToCheck(), 100);
        x.clear();
        dueThrown("nextToCheck without files", NONE, x::nextToCheck);
    }

    private static void promise35() {
        InterleavedArchive x = with("2*1:" + symbols(16), "1*1:1");
        x.flip(0, 1);
        due("needed on the day of storing", x.needed(), 0);
        x.advance(1);
        due("needed", x.needed(), 4);
        x.burst(10, 2, 0);
        due("needed", x.needed(), 6);
        x.burst(20, 2, 0);
        due("needed of what is lost", x.needed(), 6);
        due("scrub with less", x.scrub(5), 0);
        due("needed", x.needed(), 1);
        x.undo();
        due("scrub with what is needed", x.scrub(6), 0);
        due("account", x.account(3), 0);
        due("needed", x.needed(), 0);
        dueThrown("nextToCheck", NONE, x::nextToCheck);
    }

    private static void promise36() {
        InterleavedArchive x = with("6*1:" + symbols(16));
        due("account", x.account(7), 28);
        x.advance(1);
        x.burst(0, 3, 0);
        x.flip(5, 3);
        x.scrub(6);
        int[] accounts = {1, 1, 0, 0, 1, 3, 6, 32};
        for (int account = 0; account < 8; account++) {
            due("account " + account, x.account(account), accounts[account]);
        }
        x.burst(0, 7, 0);
        x.burst(14, 2, 0);
        x.advance(1);
        x.scrub(2);
        x.repair(0, 1);
        int[] later = {1, 1, 1, 1, 1, 3, 8, 34};
        for (int account = 0; account < 8; account++) {
            due("account " + account, x.account(account), later[account]);
        }
        for (int account : new int[] {-1, 8, MIN, MAX}) {
            dueThrown("account " + account, ARGUMENT, () -> x.account(account));
        }
    }

    private static void promise37() {
        InterleavedArchive x = new InterleavedArchive();
        due("day", x.day(), 0);
        x.advance(3);
        due("day", x.day(), 3);
        x.save();
        x.advance(4);
        due("day", x.day(), 7);
        x.undo();
        due("day behind undo", x.day(), 3);
        x.advance(1);
        x.restore();
        due("day behind restore", x.day(), 3);
        x.clear();
        due("day behind clear", x.day(), 0);
    }

    private static void promise38() {
        InterleavedArchive x = new InterleavedArchive();
        dueThrown("health without files", ARITHMETIC, x::health);
        put(x, "1*1:1");
        due("health", x.health(), 1.0);
        x.flip(0, 1);
        x.erase(1);
        x.erase(0);
        x.erase(200);
        due("health", x.health(), 7.0 / 9.0);
        put(x, "2*1:1");
        due("health", x.health(), 17.0 / 19.0);
        x.burst(0, 240, 0);
        due("health", x.health(), 0.0);
        x.remove(0);
        x.remove(1);
        dueThrown("health without files", ARITHMETIC, x::health);
    }

    // ---- texts, history and saving

    private static void promise39() {
        InterleavedArchive x = with("3*4:0123456789abcdef0");
        String text = "3*4:0123456789abcdef0";
        x.flip(x.cellOf(0, 0, 3), 9);
        x.erase(x.cellOf(0, 1, 4));
        due("length", x.describe(0, -1), text.length());
        for (int i = 0; i < text.length(); i++) {
            due("describe " + i, x.describe(0, i), text.charAt(i));
        }
        for (int index : new int[] {-2, text.length(), MIN, MAX}) {
            dueThrown("describe " + index, NONE, () -> x.describe(0, index));
            dueThrown("describe no file", BOUNDS, () -> x.describe(1, index));
        }
        x.burst(x.file(0, 5) + x.file(0, 6) - 12, 12, 0);
        for (int index : new int[] {-2, -1, 0, 4, 40}) {
            dueThrown("describe what cannot be decoded", STATE, () -> x.describe(0, index));
        }
        dueBadFiles("describe", file -> x.describe(file, 0));
        dueThrown("describe file -1", BOUNDS, () -> x.describe(-1, 0));
        InterleavedArchive y = with("1*1:12");
        y.flip(1, 5);
        y.flip(8, 5);
        due("describe what is found", y.describe(0, 4), '4');
    }

    private static void promise40() {
        InterleavedArchive x = new InterleavedArchive();
        dueThrown("undo", NONE, x::undo);
        put(x, "2*1:1");
        x.advance(1);
        x.flip(0, 1);
        x.erase(1);
        x.scrub(0);
        x.burst(4, 2, 3);
        x.remove(0);
        due("undo remove", x.undo(), 5);
        due("files", x.files(), 1);
        due("undo burst", x.undo(), 4);
        due("wrong", x.wrong(-1), 1);
        due("undo scrub", x.undo(), 3);
        due("undo erase", x.undo(), 2);
        due("erased", x.erased(-1), 0);
        due("undo flip", x.undo(), 1);
        due("wrong", x.wrong(-1), 0);
        due("undo advance", x.undo(), 0);
        due("day", x.day(), 0);
        dueThrown("undo what is forgotten", NONE, x::undo);
        due("files", x.files(), 1);
        undoKeepsOthers();
        undoReplacedFile();
        undoAfterMany();
    }

    private static void undoKeepsOthers() {
        InterleavedArchive x = with("2*1:1");
        x.advance(1);
        x.scrub(5);
        type(x, "1*1:");
        due("undo", x.undo(), 2);
        due("reportLines", x.reportLines(), 1);
        due("account", x.account(6), 0);
        due("checked", x.checked(0, 0), 0);
        due("append", x.append('7'), 5);
        due("store", x.store(), 1);
        due("undo", x.undo(), 2);
        due("account", x.account(7), 10);
        due("symbol", x.symbol(11), 0);
        due("undo", x.undo(), 1);
        due("undo the first", x.undo(), 0);
        due("files", x.files(), 0);
        due("symbol", x.symbol(0), 0);
    }

    private static void undoReplacedFile() {
        InterleavedArchive x = with("1*1:1", "3*2:" + symbols(20));
        x.remove(0);
        x.save();
        x.remove(1);
        put(x, "1*4:" + symbols(32));
        put(x, "6*3:5");
        due("symbols of the new file", x.file(1, 0), 1);
        x.undo();
        x.undo();
        due("undo remove", x.undo(), 3);
        dueOldFile(x);
        x.remove(1);
        put(x, "6*3:5");
        put(x, "6*3:5");
        due("restore", x.restore(), 1);
        dueOldFile(x);
    }

    private static void dueOldFile(InterleavedArchive x) {
        int[] want = {20, 3, 2, x.file(1, 3), 3, 9, 33};
        for (int what = 0; what <= 6; what++) {
            due("file what " + what, x.file(1, what), want[what]);
        }
        due("condition by the old seal", x.condition(1), 0);
        due("placeOf", x.placeOf(9 + 22), 200);
    }

    private static void undoAfterMany() {
        InterleavedArchive x = new InterleavedArchive();
        for (int i = 0; i < 20; i++) {
            x.advance(1);
        }
        for (int left = 5; left >= 0; left--) {
            due("undo", x.undo(), left);
            due("day", x.day(), 14 + left);
        }
        dueThrown("undo", NONE, x::undo);
        x.advance(2);
        x.advance(2);
        due("undo", x.undo(), 1);
        x.advance(5);
        due("undo", x.undo(), 1);
        due("day", x.day(), 16);
    }

    private static void promise41() {
        InterleavedArchive x = new InterleavedArchive();
        due("save", x.save(), 0);
        put(x, "2*1:1");
        put(x, "2*1:2");
        due("save", x.save(), 2);
        due("undo", x.undo(), 1);
        due("restore", x.restore(), 2);
        x.remove(0);
        due("save replaces", x.save(), 1);
        due("save is no change", x.undo(), 0);
        due("restore", x.restore(), 1);
        due("files", x.files(), 2);
    }

    private static void promise42() {
        InterleavedArchive x = new InterleavedArchive();
        dueThrown("restore", STATE, x::restore);
        put(x, "2*1:1");
        x.advance(2);
        x.erase(3);
        x.flip(5, 6);
        x.save();
        x.scrub(100);
        x.advance(2);
        x.clear();
        type(x, "1*");
        due("restore", x.restore(), 1);
        due("day", x.day(), 2);
        due("erased", x.erased(0), 1);
        due("wrong", x.wrong(0), 1);
        due("checked", x.checked(0, 0), 0);
        due("account", x.account(6), 0);
        due("account", x.account(7), 10);
        due("file", x.file(0, 0), 1);
        due("reportLines", x.reportLines(), 1);
        due("append", x.append('1'), 3);
        dueThrown("undo", NONE, x::undo);
        x.advance(1);
        due("undo behind restore", x.undo(), 0);
        x.remove(0);
        due("restore again", x.restore(), 1);
        due("restore again", x.restore(), 1);
        dueThrown("undo", NONE, x::undo);
    }

    private static final Runnable[] PROMISES = {
        PromisesTest::promise1, PromisesTest::promise2, PromisesTest::promise3, PromisesTest::promise4,
        PromisesTest::promise5, PromisesTest::promise6, PromisesTest::promise7, PromisesTest::promise8,
        PromisesTest::promise9, PromisesTest::promise10, PromisesTest::promise11, PromisesTest::promise12,
        PromisesTest::promise13, PromisesTest::promise14, PromisesTest::promise15, PromisesTest::promise16,
        PromisesTest::promise17, PromisesTest::promise18, PromisesTest::promise19, PromisesTest::promise20,
        PromisesTest::promise21, PromisesTest::promise22, PromisesTest::promise23, PromisesTest::promise24,
        PromisesTest::promise25, PromisesTest::promise26, PromisesTest::promise27, PromisesTest::promise28,
        PromisesTest::promise29, PromisesTest::promise30, PromisesTest::promise31, PromisesTest::promise32,
        PromisesTest::promise33, PromisesTest::promise34, PromisesTest::promise35, PromisesTest::promise36,
        PromisesTest::promise37, PromisesTest::promise38, PromisesTest::promise39, PromisesTest::promise40,
        PromisesTest::promise41, PromisesTest::promise42,
    };

    public static void main(String[] args) {
        for (promise = 1; promise <= PROMISES.length; promise++) {
            int number = promise;
            try {
                PROMISES[promise - 1].run();
            } catch (RuntimeException e) {
                wrong++;
                System.out.println("promise " + number + ": threw " + e);
                e.printStackTrace(System.out);
            }
            promise = number;
        }
        System.out.println("promises 1 to " + PROMISES.length + ": " + asked + " answers, " + wrong + " wrong");
        System.exit(wrong == 0 ? 0 : 1);
    }
}
