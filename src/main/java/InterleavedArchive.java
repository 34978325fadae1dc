import java.util.NoSuchElementException;

/**
 * An archive of files in 240 cells that corrects errors and erasures: blocks with check symbols over the field of
 * 16 symbols, interleaved on cells, with seals, scrubbing by age, accounts, texts, undo and saving.
 */
public final class InterleavedArchive {
    private static final int CELLS = 240;
    private static final int MAX_FILES = 8;
    private static final int MAX_BLOCKS = 4;
    private static final int DATA = 8;
    private static final int MAX_CHECKS = 6;
    private static final int MAX_DEPTH = 4;
    private static final int MAX_SIZE = DATA + MAX_CHECKS;
    private static final int MAX_LENGTH = DATA * MAX_BLOCKS;
    private static final int MAX_SYMBOL = 15;
    private static final int MAX_INPUT = 60;
    private static final int MAX_STEP = 100;
    private static final int MAX_DAY = 10000;
    private static final int MAX_BUDGET = 200;
    private static final int MAX_HISTORY = 6;
    private static final int BLOCK_CODE = 100;

    /** The characters of a text before its symbols: check symbols, asterisk, depth, colon. */
    private static final int HEAD = 4;

    private static final int ACCOUNTS = 8;
    private static final int ERRORS = 4;
    private static final int ERASURES = 5;
    private static final int BUDGET = 6;
    private static final int WRITTEN = 7;

    private static final int CLEAN = 0;
    private static final int REPAIRED = 1;
    private static final int LOST = 2;
    private static final int POSTPONED = 3;
    private static final int LINE_NUMBERS = 4;
    private static final int MAX_LINES = MAX_FILES * MAX_BLOCKS;

    /** The powers 0 to 14 of the symbol 2; the power 15 is 1 again. */
    private static final int[] POWERS = {1, 2, 4, 8, 3, 6, 12, 11, 5, 10, 7, 14, 15, 13, 9};
    /** For each symbol but 0 the power of 2 that it is. */
    private static final int[] LOGARITHMS = {0, 0, 1, 4, 2, 8, 5, 10, 3, 14, 9, 7, 6, 13, 11, 12};
    private static final int ORDER = 15;

    private final State state = new State();
    private final State kept = new State();
    private final State[] history = new State[MAX_HISTORY];
    private final Decoder decoder = new Decoder();
    private final char[] input = new char[MAX_INPUT];
    private final int[] lines = new int[MAX_LINES * LINE_NUMBERS];
    /** How many symbols of each block a burst holds. */
    private final int[] held = new int[MAX_BLOCKS];
    private int inputLength = 0;
    private int lineCount = 0;
    private int keptError = -1;
    private boolean hasKept = false;
    private int oldestChange = 0;
    private int changes = 0;

    public InterleavedArchive() {
        for (int i = 0; i < MAX_HISTORY; i++) {
            history[i] = new State();
        }
    }

    // ---- files

    public int clear() {
        int before = state.fileCount();
        state.reset();
        forgetChanges();
        return before;
    }

    public int append(char character) throws IllegalArgumentException, IllegalStateException {
        if (character < 32 || character > 126) {
            throw new IllegalArgumentException("character out of range");
        }
        if (inputLength < 0 || inputLength >= MAX_INPUT) {
            throw new IllegalStateException("input full");
        }
        input[inputLength] = character;
        inputLength++;
        return inputLength;
    }

    public int store() throws IllegalArgumentException, IllegalStateException {
        int length = inputLength;
        inputLength = 0;
        int error = textError(input, length);
        if (error >= 0) {
            keptError = error;
            throw new IllegalArgumentException("not a text of a file");
        }
        int symbols = length - HEAD;
        int checks = input[0] - '0';
        int file = state.freeFile();
        int first = state.freeArea(blocksFor(symbols) * (DATA + checks));
        if (file < 0 || first < 0) {
            throw new IllegalStateException("no number or no area for the file");
        }
        remember();
        state.enter(file, symbols, checks, input[2] - '0', first);
        writeFile(file);
        return file;
    }

    public int errorPosition() throws NoSuchElementException {
        if (keptError < 0) {
            throw new NoSuchElementException("no error position");
        }
        return keptError;
    }

    public int remove(int file) throws IndexOutOfBoundsException {
        if (!state.hasFile(file)) {
            throw new IndexOutOfBoundsException("no such file");
        }
        remember();
        state.drop(file);
        return state.fileCount();
    }

    public int file(int file, int what) throws IndexOutOfBoundsException, IllegalArgumentException {
        if (!state.hasFile(file)) {
            throw new IndexOutOfBoundsException("no such file");
        }
        switch (what) {
            case 0:
                return state.lengths[file];
            case 1:
                return state.checks[file];
            case 2:
                return state.depths[file];
            case 3:
                return state.seals[file];
            case 4:
                return state.blocks[file];
            case 5:
                return state.firsts[file];
            case 6:
                return state.areaSize(file);
            default:
                throw new IllegalArgumentException("no such number of a file");
        }
    }

    public int files() {
        int set = 0;
        for (int i = 0; i < MAX_FILES; i++) {
            if (state.hasFile(i)) {
                set |= 1 << i;
            }
        }
        return set;
    }

    public int cellOf(int file, int block, int position) throws IndexOutOfBoundsException {
        if (!state.hasPosition(file, block, position)) {
            throw new IndexOutOfBoundsException("no such file, block or position");
        }
        return state.cellAt(file, block, position);
    }

    public int owner(int cell) throws IndexOutOfBoundsException {
        if (!isCell(cell)) {
            throw new IndexOutOfBoundsException("no such cell");
        }
        return state.fileAt(cell);
    }

    public int placeOf(int cell) throws IndexOutOfBoundsException, NoSuchElementException {
        if (!isCell(cell)) {
            throw new IndexOutOfBoundsException("no such cell");
        }
        int file = state.fileAt(cell);
        if (file < 0) {
            throw new NoSuchElementException("the cell belongs to no file");
        }
        return state.placeInFile(file, cell);
    }

    public int room() {
        return state.greatestFreeArea();
    }

    // ---- cells and damage

    public int symbol(int cell) throws IndexOutOfBoundsException {
        if (!isCell(cell)) {
            throw new IndexOutOfBoundsException("no such cell");
        }
        return state.symbols[cell];
    }

    public boolean isErased(int cell) throws IndexOutOfBoundsException {
        if (!isCell(cell)) {
            throw new IndexOutOfBoundsException("no such cell");
        }
        return state.gone[cell] != 0;
    }

    public int flip(int cell, int difference) throws IndexOutOfBoundsException, IllegalArgumentException {
        if (!isCell(cell)) {
            throw new IndexOutOfBoundsException("no such cell");
        }
        if (difference < 1 || difference > MAX_SYMBOL) {
            throw new IllegalArgumentException("difference out of range");
        }
        remember();
        state.damage(cell, difference);
        return state.symbols[cell];
    }

    public int erase(int cell) throws IndexOutOfBoundsException {
        if (!isCell(cell)) {
            throw new IndexOutOfBoundsException("no such cell");
        }
        remember();
        int fresh = 1 - state.gone[cell];
        state.damage(cell, 0);
        return fresh;
    }

    public int burst(int from, int length, int kind) throws IndexOutOfBoundsException, IllegalArgumentException {
        if (!isCell(from)) {
            throw new IndexOutOfBoundsException("no such cell");
        }
        if (length < 1 || length > CELLS - from || kind < 0 || kind > MAX_SYMBOL) {
            throw new IllegalArgumentException("length or kind out of range");
        }
        remember();
        int owned = 0;
        for (int cell = from; cell < from + length; cell++) {
            state.damage(cell, kind);
            if (state.fileAt(cell) >= 0) {
                owned++;
            }
        }
        return owned;
    }

    public int wrong(int file) throws IndexOutOfBoundsException {
        if (file != -1 && !state.hasFile(file)) {
            throw new IndexOutOfBoundsException("no such file");
        }
        int count = 0;
        for (int cell = state.areaStart(file); cell < state.areaEnd(file); cell++) {
            if (state.symbols[cell] != state.written[cell]) {
                count++;
            }
        }
        return count;
    }

    public int erased(int file) throws IndexOutOfBoundsException {
        if (file != -1 && !state.hasFile(file)) {
            throw new IndexOutOfBoundsException("no such file");
        }
        int count = 0;
        for (int cell = state.areaStart(file); cell < state.areaEnd(file); cell++) {
            count += state.gone[cell];
        }
        return count;
    }

    // ---- decoding

    public int sum(int file, int block, int j) throws IndexOutOfBoundsException {
        if (!state.hasBlock(file, block) || j < 0 || j >= state.checks[file]) {
            throw new IndexOutOfBoundsException("no such file, block or sum");
        }
        decoder.load(state, file, block);
        return decoder.sums[j];
    }

    public int decoded(int file, int block, int what)
            throws IndexOutOfBoundsException, IllegalArgumentException, NoSuchElementException {
        if (!state.hasBlock(file, block)) {
            throw new IndexOutOfBoundsException("no such file or block");
        }
        if (what < 0 || what > 2) {
            throw new IllegalArgumentException("no such number of a decoding");
        }
        boolean decodable = decoder.decode(state, file, block);
        if (what == 0) {
            return Integer.bitCount(decoder.erasures);
        }
        if (!decodable) {
            throw new NoSuchElementException("the block cannot be decoded");
        }
        return what == 1 ? Integer.bitCount(decoder.errors) : decoder.errors;
    }

    public int found(int file, int block, int position) throws IndexOutOfBoundsException, NoSuchElementException {
        if (!state.hasPosition(file, block, position)) {
            throw new IndexOutOfBoundsException("no such file, block or position");
        }
        if (!decoder.decode(state, file, block)) {
            throw new NoSuchElementException("the block cannot be decoded");
        }
        return decoder.results[position];
    }

    public int read(int file, int index) throws IndexOutOfBoundsException, NoSuchElementException {
        if (!state.hasFile(file) || index < 0 || index >= state.lengths[file]) {
            throw new IndexOutOfBoundsException("no such file or symbol");
        }
        if (!decoder.decode(state, file, index / DATA)) {
            throw new NoSuchElementException("the block cannot be decoded");
        }
        return decoder.results[state.checks[file] + index % DATA];
    }

    public int condition(int file) throws IndexOutOfBoundsException {
        if (!state.hasFile(file)) {
            throw new IndexOutOfBoundsException("no such file");
        }
        int seal = 1;
        int damaged = 0;
        for (int block = 0; block < state.blocks[file]; block++) {
            if (!decoder.decode(state, file, block)) {
                return 3;
            }
            damaged += decoder.damageCount();
            seal = sealBehind(seal, file, block);
        }
        if (seal != state.seals[file]) {
            return 2;
        }
        return damaged == 0 ? 0 : 1;
    }

    public int undecodable(int file) throws IndexOutOfBoundsException {
        if (!state.hasFile(file)) {
            throw new IndexOutOfBoundsException("no such file");
        }
        return lostBlocks(file);
    }

    public int margin(int file, int block) throws IndexOutOfBoundsException, NoSuchElementException {
        if (!state.hasBlock(file, block)) {
            throw new IndexOutOfBoundsException("no such file or block");
        }
        if (!decoder.decode(state, file, block)) {
            throw new NoSuchElementException("the block cannot be decoded");
        }
        return state.checks[file] - 2 * Integer.bitCount(decoder.errors) - Integer.bitCount(decoder.erasures);
    }

    public int burstLimit(int file) throws IndexOutOfBoundsException {
        if (!state.hasFile(file)) {
            throw new IndexOutOfBoundsException("no such file");
        }
        int limit = state.areaSize(file);
        for (int from = state.areaStart(file); from < state.areaEnd(file); from++) {
            limit = standingFrom(file, from, limit);
        }
        return limit;
    }

    // ---- days, scrubbing and accounts

    public int advance(int days) throws IllegalArgumentException, IllegalStateException {
        if (days < 1 || days > MAX_STEP) {
            throw new IllegalArgumentException("days out of range");
        }
        if (state.today > MAX_DAY - days) {
            throw new IllegalStateException("the day number would be too great");
        }
        remember();
        state.today += days;
        return state.today;
    }

    public int scrub(int budget) throws IllegalArgumentException {
        if (budget < 0 || budget > MAX_BUDGET) {
            throw new IllegalArgumentException("budget out of range");
        }
        remember();
        lineCount = 0;
        int left = budget;
        boolean ended = false;
        for (int turn = 0; turn < MAX_LINES && left > 0 && !ended; turn++) {
            int next = state.blockToCheck();
            if (next < 0) {
                ended = true;
            } else {
                left--;
                int outcome = scrubBlock(next / BLOCK_CODE, next % BLOCK_CODE, left);
                left -= outcome == REPAIRED ? decoder.damageCount() : 0;
                ended = outcome == POSTPONED;
            }
        }
        state.counts[BUDGET] += budget - left;
        return left;
    }

    public int report(int line, int what) throws IndexOutOfBoundsException, IllegalArgumentException {
        if (line < 0 || line >= lineCount) {
            throw new IndexOutOfBoundsException("no such line");
        }
        if (what < 0 || what >= LINE_NUMBERS) {
            throw new IllegalArgumentException("no such number of a line");
        }
        return lines[line * LINE_NUMBERS + what];
    }

    public int reportLines() {
        return lineCount;
    }

    public int repair(int file, int block) throws IndexOutOfBoundsException, UnsupportedOperationException {
        if (!state.hasBlock(file, block)) {
            throw new IndexOutOfBoundsException("no such file or block");
        }
        if (!decoder.decode(state, file, block)) {
            throw new UnsupportedOperationException("the block cannot be decoded");
        }
        remember();
        writeFound(file, block, decoder.errors | decoder.erasures);
        return decoder.damageCount();
    }

    public int checked(int file, int block) throws IndexOutOfBoundsException {
        if (!state.hasBlock(file, block)) {
            throw new IndexOutOfBoundsException("no such file or block");
        }
        return state.checkDays[file * MAX_BLOCKS + block];
    }

    public int nextToCheck() throws NoSuchElementException {
        int next = state.blockToCheck();
        if (next < 0) {
            throw new NoSuchElementException("no block is to be checked");
        }
        return next;
    }

    public int needed() {
        int need = 0;
        for (int file = 0; file < MAX_FILES; file++) {
            for (int block = 0; block < state.blocks[file]; block++) {
                if (state.isDue(file, block)) {
                    decoder.decode(state, file, block);
                    need += 1 + decoder.damageCount();
                }
            }
        }
        return need;
    }

    public int account(int account) throws IllegalArgumentException {
        if (account < 0 || account >= ACCOUNTS) {
            throw new IllegalArgumentException("no such account");
        }
        return state.counts[account];
    }

    public int day() {
        return state.today;
    }

    public double health() throws ArithmeticException {
        int cells = 0;
        int healthy = 0;
        for (int cell = 0; cell < CELLS; cell++) {
            if (state.fileAt(cell) >= 0) {
                cells++;
                if (state.symbols[cell] == state.written[cell] && state.gone[cell] == 0) {
                    healthy++;
                }
            }
        }
        if (cells == 0) {
            throw new ArithmeticException("no files");
        }
        return (double) healthy / (double) cells;
    }

    // ---- texts, history and saving

    public int describe(int file, int index)
            throws IndexOutOfBoundsException, IllegalStateException, NoSuchElementException {
        if (!state.hasFile(file)) {
            throw new IndexOutOfBoundsException("no such file");
        }
        if (lostBlocks(file) != 0) {
            throw new IllegalStateException("the file cannot be decoded");
        }
        int length = HEAD + state.lengths[file];
        if (index == -1) {
            return length;
        }
        if (index < 0 || index >= length) {
            throw new NoSuchElementException("no such character");
        }
        return index < HEAD ? headCharacter(file, index) : dataCharacter(file, index - HEAD);
    }

    public int undo() throws NoSuchElementException {
        if (changes <= 0) {
            throw new NoSuchElementException("no change is remembered");
        }
        changes--;
        state.takeOver(history[(oldestChange + changes) % MAX_HISTORY]);
        return changes;
    }

    public int save() {
        kept.takeOver(state);
        hasKept = true;
        return state.fileCount();
    }

    public int restore() throws IllegalStateException {
        if (!hasKept) {
            throw new IllegalStateException("nothing was saved");
        }
        state.takeOver(kept);
        forgetChanges();
        return state.fileCount();
    }

    // ---- history inside

    /** Keeps the state as it is just before a change; of more than six the oldest one is written over. */
    private void remember() {
        if (changes >= MAX_HISTORY) {
            oldestChange = (oldestChange + 1) % MAX_HISTORY;
            changes = MAX_HISTORY - 1;
        }
        history[(oldestChange + changes) % MAX_HISTORY].takeOver(state);
        changes++;
    }

    private void forgetChanges() {
        oldestChange = 0;
        changes = 0;
    }

    // ---- texts inside

    /** Returns the error position of a text, or -1 if it tells a file. */
    private static int textError(char[] text, int length) {
        for (int i = 0; i < length && i < text.length; i++) {
            if (!fitsText(i, text[i])) {
                return i;
            }
        }
        return length <= HEAD ? length : -1;
    }

    private static boolean fitsText(int index, char character) {
        switch (index) {
            case 0:
                return character >= '1' && character <= '0' + MAX_CHECKS;
            case 1:
                return character == '*';
            case 2:
                return character >= '1' && character <= '0' + MAX_DEPTH;
            case 3:
                return character == ':';
            default:
                return index < HEAD + MAX_LENGTH && symbolOf(character) >= 0;
        }
    }

    /** Returns the symbol that a character stands for, or -1. */
    private static int symbolOf(char character) {
        if (character >= '0' && character <= '9') {
            return character - '0';
        }
        if (character >= 'a' && character <= 'f') {
            return character - 'a' + 10;
        }
        return -1;
    }

    private int headCharacter(int file, int index) {
        switch (index) {
            case 0:
                return '0' + state.checks[file];
            case 1:
                return '*';
            case 2:
                return '0' + state.depths[file];
            default:
                return ':';
        }
    }

    private int dataCharacter(int file, int index) {
        decoder.decode(state, file, index / DATA);
        int symbol = decoder.results[state.checks[file] + index % DATA];
        return symbol < 10 ? '0' + symbol : 'a' + symbol - 10;
    }

    // ---- files inside

    /** Writes the blocks of a file that has just been entered, from the symbols of the text in the input. */
    private void writeFile(int file) {
        int seal = 1;
        int size = state.blockSize(file);
        for (int block = 0; block < state.blocks[file]; block++) {
            decoder.clearBlock(state.checks[file]);
            for (int i = 0; i < dataIn(file, block); i++) {
                decoder.given[state.checks[file] + i] = Math.max(0, symbolOf(input[HEAD + block * DATA + i]));
            }
            decoder.encode();
            seal = sealBehind(seal, file, block);
            writeFound(file, block, (1 << size) - 1);
        }
        state.seals[file] = seal;
    }

    /** Writes the symbols that the decoder found at some positions of a block to their cells. */
    private void writeFound(int file, int block, int positions) {
        for (int position = 0; position < state.blockSize(file); position++) {
            if ((positions >> position & 1) != 0) {
                state.write(state.cellAt(file, block, position), decoder.results[position]);
            }
        }
        state.counts[WRITTEN] += Integer.bitCount(positions);
    }

    /** Goes on with a seal over the symbols that the decoder found for a block, without missing ones. */
    private int sealBehind(int seal, int file, int block) {
        int result = seal;
        for (int i = 0; i < dataIn(file, block); i++) {
            result = (result * 17 + decoder.results[state.checks[file] + i]) % 251;
        }
        return result;
    }

    /** Returns how many symbols of the file a block has; the rest of its data symbols is missing. */
    private int dataIn(int file, int block) {
        return Math.min(DATA, state.lengths[file] - block * DATA);
    }

    private int lostBlocks(int file) {
        int set = 0;
        for (int block = 0; block < state.blocks[file]; block++) {
            if (!decoder.decode(state, file, block)) {
                set |= 1 << block;
            }
        }
        return set;
    }

    /**
     * Returns how long, up to a limit, bursts of erasures can be so that none from a cell on holds too many symbols of
     * a block. One that meets the end of the area first sets no limit, since a longer one has no place there.
     */
    private int standingFrom(int file, int from, int limit) {
        for (int block = 0; block < MAX_BLOCKS; block++) {
            held[block] = 0;
        }
        for (int length = 0; length < limit && from + length < state.areaEnd(file); length++) {
            int block = state.placeInFile(file, from + length) / BLOCK_CODE;
            held[block]++;
            if (held[block] > state.checks[file]) {
                return length;
            }
        }
        return limit;
    }

    // ---- scrubbing inside

    /** Checks a block whose check has been paid, with what is left of the budget, and returns the outcome. */
    private int scrubBlock(int file, int block, int left) {
        boolean decodable = decoder.decode(state, file, block);
        int damage = decoder.damageCount();
        int outcome = CLEAN;
        if (!decodable) {
            outcome = LOST;
        } else if (damage > 0) {
            outcome = damage <= left ? REPAIRED : POSTPONED;
        }
        if (outcome == REPAIRED) {
            writeFound(file, block, decoder.errors | decoder.erasures);
            state.counts[ERRORS] += Integer.bitCount(decoder.errors);
            state.counts[ERASURES] += Integer.bitCount(decoder.erasures);
        }
        if (outcome != POSTPONED) {
            state.checkDays[file * MAX_BLOCKS + block] = state.today;
        }
        state.counts[outcome]++;
        addLine(file, block, outcome, damage);
        return outcome;
    }

    private void addLine(int file, int block, int outcome, int damage) {
        if (lineCount >= MAX_LINES) {
            return;
        }
        int at = lineCount * LINE_NUMBERS;
        lines[at] = file;
        lines[at + 1] = block;
        lines[at + 2] = outcome;
        lines[at + 3] = damage;
        lineCount++;
    }

    // ---- numbers

    private static boolean isCell(int cell) {
        return cell >= 0 && cell < CELLS;
    }

    private static int blocksFor(int symbols) {
        return (symbols + DATA - 1) / DATA;
    }

    private static int product(int a, int b) {
        if (a == 0 || b == 0) {
            return 0;
        }
        return POWERS[(LOGARITHMS[a & MAX_SYMBOL] + LOGARITHMS[b & MAX_SYMBOL]) % ORDER];
    }

    /** Returns the symbol whose product with b is a; b is not 0. */
    private static int quotient(int a, int b) {
        if (a == 0 || b == 0) {
            return 0;
        }
        return POWERS[(LOGARITHMS[a & MAX_SYMBOL] + ORDER - LOGARITHMS[b & MAX_SYMBOL]) % ORDER];
    }

    /** All that a change is remembered with: cells, files, days and counts. */
    private static final class State {
        private final int[] symbols = new int[CELLS];
        private final int[] written = new int[CELLS];
        /** 1 for an erased cell, else 0. */
        private final int[] gone = new int[CELLS];
        private final int[] counts = new int[ACCOUNTS];
        /** The symbols of each file; 0 for a number without a file. */
        private final int[] lengths = new int[MAX_FILES];
        private final int[] blocks = new int[MAX_FILES];
        private final int[] checks = new int[MAX_FILES];
        private final int[] depths = new int[MAX_FILES];
        private final int[] seals = new int[MAX_FILES];
        private final int[] firsts = new int[MAX_FILES];
        private final int[] checkDays = new int[MAX_FILES * MAX_BLOCKS];
        private int today = 0;

        private void takeOver(State other) {
            System.arraycopy(other.symbols, 0, symbols, 0, CELLS);
            System.arraycopy(other.written, 0, written, 0, CELLS);
            System.arraycopy(other.gone, 0, gone, 0, CELLS);
            System.arraycopy(other.counts, 0, counts, 0, ACCOUNTS);
            System.arraycopy(other.lengths, 0, lengths, 0, MAX_FILES);
            System.arraycopy(other.blocks, 0, blocks, 0, MAX_FILES);
            System.arraycopy(other.checks, 0, checks, 0, MAX_FILES);
            System.arraycopy(other.depths, 0, depths, 0, MAX_FILES);
            System.arraycopy(other.seals, 0, seals, 0, MAX_FILES);
            System.arraycopy(other.firsts, 0, firsts, 0, MAX_FILES);
            System.arraycopy(other.checkDays, 0, checkDays, 0, MAX_FILES * MAX_BLOCKS);
            today = other.today;
        }

        private void reset() {
            for (int cell = 0; cell < CELLS; cell++) {
                symbols[cell] = 0;
                written[cell] = 0;
                gone[cell] = 0;
            }
            for (int i = 0; i < ACCOUNTS; i++) {
                counts[i] = 0;
            }
            for (int file = 0; file < MAX_FILES; file++) {
                drop(file);
            }
            today = 0;
        }

        // Files

        private boolean hasFile(int file) {
            return file >= 0 && file < MAX_FILES && lengths[file] > 0;
        }

        private boolean hasBlock(int file, int block) {
            return hasFile(file) && block >= 0 && block < blocks[file];
        }

        private boolean hasPosition(int file, int block, int position) {
            return hasBlock(file, block) && position >= 0 && position < blockSize(file);
        }

        private int fileCount() {
            int count = 0;
            for (int file = 0; file < MAX_FILES; file++) {
                if (hasFile(file)) {
                    count++;
                }
            }
            return count;
        }

        private int freeFile() {
            for (int file = 0; file < MAX_FILES; file++) {
                if (!hasFile(file)) {
                    return file;
                }
            }
            return -1;
        }

        private void enter(int file, int length, int checkSymbols, int depth, int first) {
            lengths[file] = length;
            blocks[file] = blocksFor(length);
            checks[file] = checkSymbols;
            depths[file] = depth;
            firsts[file] = first;
            for (int block = 0; block < MAX_BLOCKS; block++) {
                checkDays[file * MAX_BLOCKS + block] = today;
            }
        }

        private void drop(int file) {
            lengths[file] = 0;
            blocks[file] = 0;
            checks[file] = 0;
            depths[file] = 0;
            seals[file] = 0;
            firsts[file] = 0;
        }

        private int blockSize(int file) {
            return DATA + checks[file];
        }

        private int areaSize(int file) {
            return blocks[file] * blockSize(file);
        }

        /** Returns the first cell of a file, or of all cells for -1. */
        private int areaStart(int file) {
            return file < 0 ? 0 : firsts[file];
        }

        private int areaEnd(int file) {
            return file < 0 ? CELLS : firsts[file] + areaSize(file);
        }

        // Cells

        /** Returns how many blocks the group has that begins with a block; at least 1, since it divides. */
        private int groupSize(int file, int firstBlock) {
            return Math.max(1, Math.min(depths[file], blocks[file] - firstBlock));
        }

        private int cellAt(int file, int block, int position) {
            int place = block % Math.max(1, depths[file]);
            int firstBlock = block - place;
            return firsts[file] + firstBlock * blockSize(file) + position * groupSize(file, firstBlock) + place;
        }

        private int placeInFile(int file, int cell) {
            int offset = cell - firsts[file];
            int depth = Math.max(1, depths[file]);
            int firstBlock = offset / (depth * blockSize(file)) * depth;
            int inGroup = offset - firstBlock * blockSize(file);
            int size = groupSize(file, firstBlock);
            return BLOCK_CODE * (firstBlock + inGroup % size) + inGroup / size;
        }

        private int fileAt(int cell) {
            for (int file = 0; file < MAX_FILES; file++) {
                if (hasFile(file) && cell >= areaStart(file) && cell < areaEnd(file)) {
                    return file;
                }
            }
            return -1;
        }

        /** Returns the lowest first cell of so many free cells, or -1. */
        private int freeArea(int size) {
            int free = 0;
            for (int cell = 0; cell < CELLS; cell++) {
                free = fileAt(cell) < 0 ? free + 1 : 0;
                if (free == size) {
                    return cell - size + 1;
                }
            }
            return -1;
        }

        private int greatestFreeArea() {
            int greatest = 0;
            int free = 0;
            for (int cell = 0; cell < CELLS; cell++) {
                free = fileAt(cell) < 0 ? free + 1 : 0;
                greatest = Math.max(greatest, free);
            }
            return greatest;
        }

        private void write(int cell, int symbol) {
            symbols[cell] = symbol;
            written[cell] = symbol;
            gone[cell] = 0;
        }

        /** Erases a cell for the kind 0, else flips it by the kind. */
        private void damage(int cell, int kind) {
            if (kind == 0) {
                gone[cell] = 1;
            } else {
                symbols[cell] ^= kind;
            }
        }

        // Age

        private boolean isDue(int file, int block) {
            return checkDays[file * MAX_BLOCKS + block] != today;
        }

        /** Returns the block that scrubbing takes first, as 100 times the file plus the block, or -1. */
        private int blockToCheck() {
            int best = -1;
            int bestDay = today;
            for (int file = 0; file < MAX_FILES; file++) {
                for (int block = 0; block < blocks[file]; block++) {
                    if (checkDays[file * MAX_BLOCKS + block] < bestDay) {
                        best = BLOCK_CODE * file + block;
                        bestDay = checkDays[file * MAX_BLOCKS + block];
                    }
                }
            }
            return best;
        }
    }

    /** Decodes one block after the other; its rows hold the last one. */
    private static final class Decoder {
        /** The symbols of the cells. */
        private final int[] given = new int[MAX_SIZE];
        /** The symbols of the sound block that is found. */
        private final int[] results = new int[MAX_SIZE];
        private final int[] sums = new int[MAX_CHECKS];
        private final int[] row = new int[MAX_CHECKS];
        /** A row for each number of assumed errors, from none to half of the check symbols. */
        private final int[][] rows = new int[MAX_CHECKS / 2 + 1][MAX_CHECKS];
        private int checks = 0;
        /** The sets of positions. */
        private int erasures = 0;
        private int errors = 0;
        private boolean decodable = false;

        private void clearBlock(int checkSymbols) {
            checks = Math.max(0, Math.min(MAX_CHECKS, checkSymbols));
            erasures = 0;
            errors = 0;
            decodable = false;
            for (int position = 0; position < MAX_SIZE; position++) {
                given[position] = 0;
                results[position] = 0;
            }
        }

        private void load(State state, int file, int block) {
            clearBlock(state.checks[file]);
            for (int position = 0; position < DATA + checks; position++) {
                int cell = state.cellAt(file, block, position);
                given[position] = state.symbols[cell];
                erasures |= state.gone[cell] << position;
            }
            addSums();
        }

        private boolean decode(State state, int file, int block) {
            load(state, file, block);
            int free = checks - Integer.bitCount(erasures);
            if (free < 0) {
                return false;
            }
            cancelErasures();
            for (int count = 0; 2 * count <= free && !decodable; count++) {
                int set = errorSet(rows, 0, free, 0, count, DATA + checks, erasures);
                if (set >= 0) {
                    errors = set;
                    decodable = true;
                    solve(erasures | errors);
                }
            }
            return decodable;
        }

        /** Finds the check symbols for the data symbols that are given, as if all check symbols were erased. */
        private void encode() {
            addSums();
            solve((1 << checks) - 1);
        }

        private int damageCount() {
            return decodable ? Integer.bitCount(errors | erasures) : 0;
        }

        private void addSums() {
            for (int j = 0; j < MAX_CHECKS; j++) {
                int sum = 0;
                for (int position = 0; position < DATA + checks; position++) {
                    sum ^= product(given[position], POWERS[position * j % ORDER]);
                }
                sums[j] = sum;
            }
        }

        /**
         * Returns a set of so many positions from a first one on that explains the row, or -1. An error at a position
         * adds to the sums a multiple of a power series; cancelling the position takes it out and costs one sum. The
         * set is right if nothing but zeros stays.
         */
        private static int errorSet(int[][] rows, int level, int length, int from, int count, int size, int erasures) {
            if (count == 0) {
                return isZero(rows[level], length) ? 0 : -1;
            }
            if (level + 1 >= rows.length) {
                return -1;
            }
            for (int position = from; position < size; position++) {
                if ((erasures >> position & 1) == 0) {
                    cancel(rows[level], rows[level + 1], position, length);
                    int rest = errorSet(rows, level + 1, length - 1, position + 1, count - 1, size, erasures);
                    if (rest >= 0) {
                        return rest | 1 << position;
                    }
                }
            }
            return -1;
        }

        private static boolean isZero(int[] row, int length) {
            for (int j = 0; j < length && j < row.length; j++) {
                if (row[j] != 0) {
                    return false;
                }
            }
            return true;
        }

        /** Takes what a position adds out of a row of sums; the new row is shorter by one. */
        private static void cancel(int[] source, int[] target, int position, int length) {
            for (int j = 0; j + 1 < length && j + 1 < source.length; j++) {
                target[j] = source[j + 1] ^ product(POWERS[position % ORDER], source[j]);
            }
        }

        private void cancelErasures() {
            System.arraycopy(sums, 0, rows[0], 0, MAX_CHECKS);
            int left = checks;
            for (int position = 0; position < MAX_SIZE; position++) {
                if ((erasures >> position & 1) != 0) {
                    cancel(rows[0], rows[0], position, left);
                    left--;
                }
            }
        }

        /** Finds the sound block that differs from the given one at no other positions than these. */
        private void solve(int positions) {
            for (int position = 0; position < MAX_SIZE; position++) {
                results[position] = given[position];
                if ((positions >> position & 1) != 0) {
                    results[position] ^= difference(position, positions & ~(1 << position));
                }
            }
        }

        /**
         * Returns what must be added at a position if the others are wrong too. Cancelling another position multiplies
         * what this one adds by the sum of their two powers, so the product of those sums is divided out again.
         */
        private int difference(int position, int others) {
            System.arraycopy(sums, 0, row, 0, MAX_CHECKS);
            int left = checks;
            int factor = 1;
            for (int other = 0; other < MAX_SIZE; other++) {
                if ((others >> other & 1) != 0) {
                    cancel(row, row, other, left);
                    left--;
                    factor = product(factor, POWERS[position] ^ POWERS[other]);
                }
            }
            return quotient(row[0], factor);
        }
    }
}
