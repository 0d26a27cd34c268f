import java.util.Arrays;

/**
 * A hall where small programs of up to three cores meet at one memory, with rows of waiting stores
 * and without. The numbered promises that it keeps are those of DOC.md.
 */
public final class LitmusHall {
    public static final int NONE = -1;

    private static final int FULL = -2;

    private static final int MOST_BYTES = 4000;
    private static final int FEED_BYTES = 20;
    private static final int MOST_TOKENS = 500;
    private static final int MOST_CORES = 3;
    private static final int MOST_INS = 6;
    private static final int MOST_STATES = 3000;
    private static final int MOST_CURE = 2;
    private static final int CELLS = 4;
    private static final int REGS = 3;

    // Each INS is a step, each store of one goes by another; a CURE may put fences in.
    private static final int MOST_STEPS = MOST_CORES * 2 * MOST_INS + MOST_CURE;

    private static final int LOAD = 0;
    private static final int STORE = 1;
    private static final int SET = 2;
    private static final int ADD = 3;
    private static final int FENCE = 4;
    private static final int SWAP = 5;
    private static final int INC = 6;
    private static final int CAS = 7;
    private static final int IF = 8;

    private static final int WITHOUT_ROWS = 0;
    private static final int WITH_ROWS = 1;
    // Without ROWS, and which CELLS a CORE stored to since its latest fence is part of the STATE.
    private static final int TRACKED = 2;

    private static final int GO = 3;
    private static final int STEP_KINDS = 6;

    private static final int SYNTAX = 1;
    private static final int ROOM = 2;
    private static final int MEANING = 3;

    private static final int OUTCOME_INTS = REGS * MOST_CORES + CELLS;

    private final byte[] tape;
    private int tapeSize;
    private final Reader reader;
    private int faultPlace;
    private boolean loaded;
    private Program program;
    private final Machine machine;
    private Explorer explorer;
    private final Findings withRows;
    private final Findings withoutRows;
    private final Race theRace;
    private final Cure theCure;

    public LitmusHall() {
        tape = new byte[MOST_BYTES];
        reader = new Reader();
        faultPlace = NONE;
        program = new Program();
        machine = new Machine();
        withRows = new Findings();
        withoutRows = new Findings();
        theRace = new Race();
        theCure = new Cure();
    }

    public int feed(int a, int b, int c, int d, int e) {
        if (tapeSize + FEED_BYTES > MOST_BYTES) {
            return NONE;
        }
        feedWord(a);
        feedWord(b);
        feedWord(c);
        feedWord(d);
        feedWord(e);
        return tapeSize;
    }

    private void feedWord(int word) {
        for (int shift = 24; shift >= 0 && tapeSize < MOST_BYTES; shift -= 8) {
            tape[tapeSize] = (byte) (word >> shift);
            tapeSize++;
        }
    }

    public int back(int n) {
        if (n < 0 || n > tapeSize) {
            return NONE;
        }
        tapeSize -= n;
        return tapeSize;
    }

    public int read() {
        int fault = reader.readText(tape, tapeSize);
        faultPlace = reader.place;
        tapeSize = 0;
        if (fault == 0) {
            Program old = program;
            program = reader.draft;
            reader.draft = old;
            loaded = true;
            forgetFindings();
        }
        return fault;
    }

    private void forgetFindings() {
        machine.stands = false;
        withRows.known = false;
        withoutRows.known = false;
        theRace.known = false;
        theCure.forgetSearch();
    }

    public int place() {
        return faultPlace;
    }

    public int ins(int k, int i, int what) {
        if (!hasCore(k) || i < 0 || i >= program.lengths[k] || what < 0 || what >= Program.PARTS) {
            return NONE;
        }
        return program.part(k, i, what);
    }

    private boolean hasCore(int k) {
        return loaded && k >= 0 && k < program.cores;
    }

    public boolean begin(int mode) {
        if (!loaded || !isMode(mode)) {
            return false;
        }
        machine.start(program, mode);
        return true;
    }

    private static boolean isMode(int mode) {
        return mode == WITHOUT_ROWS || mode == WITH_ROWS;
    }

    public boolean step(int s) {
        return machine.stands && machine.go(program, s);
    }

    public boolean undo() {
        return machine.stands && machine.takeBack(program);
    }

    public int register(int k, int r) {
        if (!machine.stands || !hasCore(k) || r < 0 || r >= REGS) {
            return 0;
        }
        return machine.state.words[k * REGS + r];
    }

    public int memory(int c) {
        if (!machine.stands || c < 0 || c >= CELLS) {
            return 0;
        }
        return machine.state.words[State.MEMORY_AT + c];
    }

    public int next(int k) {
        return machine.stands && hasCore(k) ? machine.state.nextOf(k) : NONE;
    }

    public int store(int k, int i, int what) {
        if (!machine.stands || !hasCore(k) || i < 0 || i >= machine.state.rowSize(k)) {
            return NONE;
        }
        if (what == 0) {
            return machine.state.rowCell(k, i);
        }
        return what == 1 ? machine.state.rowInt(k, i) : NONE;
    }

    public int outcomes(int mode) {
        if (!loaded || !isMode(mode)) {
            return NONE;
        }
        Findings found = found(mode);
        return found.full ? FULL : found.size;
    }

    public int outcome(int mode, int n, int i) {
        if (!loaded || !isMode(mode) || i < 0 || i >= OUTCOME_INTS) {
            return 0;
        }
        Findings found = found(mode);
        return found.has(n) ? found.intOf(n, i) : 0;
    }

    public int schedule(int mode, int n, int i) {
        if (!loaded || !isMode(mode)) {
            return NONE;
        }
        Findings found = found(mode);
        return found.has(n) ? found.stepOf(n, i) : NONE;
    }

    public int more(int i) {
        if (!loaded) {
            return NONE;
        }
        Findings with = found(WITH_ROWS);
        Findings without = found(WITHOUT_ROWS);
        if (with.full || without.full) {
            return FULL;
        }
        return with.numberOfOther(without, i);
    }

    public int race() {
        if (!loaded) {
            return NONE;
        }
        findRace();
        return theRace.answer;
    }

    public int racer(int what) {
        if (!loaded) {
            return NONE;
        }
        findRace();
        return theRace.tell(what);
    }

    private void findRace() {
        if (!theRace.known) {
            theRace.search(program, explorerAtHand());
        }
    }

    public int cure(int n) {
        if (!loaded || n < 0 || n > MOST_CURE) {
            return NONE;
        }
        Findings without = found(WITHOUT_ROWS);
        return theCure.least(program, without, explorerAtHand(), n);
    }

    public int cured(int i) {
        return theCure.toldPlace(i);
    }

    public int count(int what) {
        if (what < 0 || what > 9) {
            return NONE;
        }
        if (what == 9) {
            return tapeSize;
        }
        return loaded ? countOfProgram(what) : 0;
    }

    private int countOfProgram(int what) {
        switch (what) {
            case 0:
                return program.cores;
            case 1:
                return program.insInAll();
            case 2:
                return found(WITH_ROWS).statesOrNone();
            case 3:
                return found(WITHOUT_ROWS).statesOrNone();
            case 4:
                return found(WITH_ROWS).sizeOrNone();
            case 5:
                return found(WITHOUT_ROWS).sizeOrNone();
            case 6:
                return machine.stands ? machine.steps : 0;
            case 7:
                return machine.stands && machine.state.hasEnded(program) ? 1 : 0;
            default:
                return program.placesInAll();
        }
    }

    private Findings found(int mode) {
        Findings found = mode == WITH_ROWS ? withRows : withoutRows;
        if (!found.known) {
            Explorer at = explorerAtHand();
            found.fill(at, at.explore(program, mode));
        }
        return found;
    }

    // Its rows are the widest of the object: they are made only for an object that explores.
    private Explorer explorerAtHand() {
        if (explorer == null) {
            explorer = new Explorer();
        }
        return explorer;
    }

    /** What a text tells: the INS of its CORES and MEMORY at first. */
    private static final class Program {
        static final int PARTS = 8;
        static final int KIND_PART = 0;
        static final int CELL_PART = 1;
        static final int REG_PART = 2;
        static final int FIRST_VAL = 3;
        static final int SECOND_VAL = 5;
        static final int SKIP_PART = 7;
        static final int PLACE_CORE = 10;
        // A CORE may get all fences of a CURE.
        private static final int INS_ROOM = MOST_INS + MOST_CURE;

        int cores;
        final int[] lengths = new int[MOST_CORES];
        final int[] cells = new int[CELLS];
        final int[] parts = new int[MOST_CORES * INS_ROOM * PARTS];

        void clear() {
            cores = 0;
            Arrays.fill(lengths, 0);
            Arrays.fill(cells, 0);
        }

        /** Where the parts of an INS begin. */
        static int partsAt(int k, int i) {
            return (k * INS_ROOM + i) * PARTS;
        }

        int part(int k, int i, int what) {
            return parts[partsAt(k, i) + what];
        }

        boolean hasRoom(int k) {
            return lengths[k] < INS_ROOM;
        }

        /** Where the parts of a new INS begin, which has only its kind yet; there must be room. */
        int addBlank(int k, int kind) {
            int ins = partsAt(k, lengths[k]);
            lengths[k]++;
            parts[ins + KIND_PART] = kind;
            parts[ins + CELL_PART] = NONE;
            parts[ins + REG_PART] = NONE;
            parts[ins + FIRST_VAL] = NONE;
            parts[ins + FIRST_VAL + 1] = 0;
            parts[ins + SECOND_VAL] = NONE;
            parts[ins + SECOND_VAL + 1] = 0;
            parts[ins + SKIP_PART] = 0;
            return ins;
        }

        int insInAll() {
            int sum = 0;
            for (int k = 0; k < cores; k++) {
                sum += lengths[k];
            }
            return sum;
        }

        int placesInAll() {
            int sum = 0;
            for (int k = 0; k < cores; k++) {
                sum += Math.max(0, lengths[k] - 1);
            }
            return sum;
        }

        /** The n-th place for a fence, as 10 times its CORE and the INS behind it. */
        int placeOf(int n) {
            int left = n;
            for (int k = 0; k < cores; k++) {
                int here = Math.max(0, lengths[k] - 1);
                if (left < here) {
                    return k * PLACE_CORE + left + 1;
                }
                left -= here;
            }
            return NONE;
        }

        /** Becomes another PROGRAM with a fence put in at each of two places (NONE: no such one). */
        void becomeFenced(Program plain, int first, int second) {
            clear();
            cores = plain.cores;
            System.arraycopy(plain.cells, 0, cells, 0, CELLS);
            for (int k = 0; k < cores; k++) {
                for (int i = 0; i < plain.lengths[k]; i++) {
                    int here = k * PLACE_CORE + i;
                    if ((here == first || here == second) && hasRoom(k)) {
                        addBlank(k, FENCE);
                    }
                    if (hasRoom(k)) {
                        int skip = plain.part(k, i, SKIP_PART);
                        int widened = within(here, skip, first) + within(here, skip, second);
                        copyIns(plain, k, i, skip + widened);
                    }
                }
            }
        }

        private void copyIns(Program plain, int k, int i, int skip) {
            int from = partsAt(k, i);
            int to = addBlank(k, plain.parts[from + KIND_PART]);
            System.arraycopy(plain.parts, from, parts, to, PARTS);
            parts[to + SKIP_PART] = skip;
        }

        // A fence right ahead of the INS that a skip leads to is not left out: it is done.
        private static int within(int here, int skip, int fence) {
            return fence > here && fence <= here + skip ? 1 : 0;
        }
    }

    /** Reads a text into a draft; what it was before is lost, with a FAULT too. */
    private static final class Reader {
        // The longest word that the grammar has, and a blank.
        private static final int WORD_ROOM = 6;
        private static final int MOST_DIGITS = 3;
        private static final String WORDS =
            "load  store set   add   fence swap  inc   cas   if    cell  core  end   skip  a     b     c     ";
        // Kinds of TOKENS: of words their number in WORDS, so that those of INS are the kinds of INS.
        private static final int CELL_WORD = 9;
        private static final int CORE_WORD = 10;
        private static final int END_WORD = 11;
        private static final int SKIP_WORD = 12;
        private static final int REG_A = 13;
        private static final int REG_C = 15;
        private static final int WORD_KINDS = 16;
        private static final int NUMBER = 16;
        private static final int COLON = 17;
        private static final int SEMICOLON = 18;
        private static final int EQUALS = 19;
        private static final int MINUS = 20;
        private static final int TEXT_END = 21;
        // Also a word that the grammar does not have: no text goes on with either.
        private static final int NO_TOKEN = 22;

        Program draft = new Program();
        int place = NONE;
        private int fault;
        private int latePlace;
        private final int[] kinds = new int[MOST_TOKENS + 1];
        private final int[] starts = new int[MOST_TOKENS + 1];
        private final int[] numbers = new int[MOST_TOKENS + 1];
        private final int[] skipTokens = new int[MOST_INS];
        private int at;
        private int told;
        private int valueReg;
        private int value;

        /** 0, or the number of the FAULT; its place is told by the field. */
        int readText(byte[] tape, int size) {
            scan(tape, size);
            fault = 0;
            place = NONE;
            latePlace = NONE;
            at = 0;
            told = 0;
            draft.clear();
            if (readCells() && readCores() && latePlace != NONE) {
                fault = MEANING;
                place = latePlace;
            }
            return fault;
        }

        // One TOKEN above the most is scanned: SYNTAX comes ahead of ROOM there.
        private void scan(byte[] tape, int size) {
            int from = 0;
            for (int n = 0; n <= MOST_TOKENS; n++) {
                from = behindBlanks(tape, size, from);
                starts[n] = from;
                if (from >= size) {
                    kinds[n] = TEXT_END;
                    return;
                }
                int behind = behindRun(tape, size, from);
                kinds[n] = kindOf(tape, from, behind);
                if (kinds[n] == NO_TOKEN) {
                    return;
                }
                numbers[n] = kinds[n] == NUMBER ? numberOf(tape, from, behind) : NONE;
                from = behind;
            }
        }

        private static int behindBlanks(byte[] tape, int size, int from) {
            for (int i = from; i < size; i++) {
                int c = tape[i];
                if (c != 9 && c != 10 && c != 13 && c != 32) {
                    return i;
                }
            }
            return size;
        }

        private static int behindRun(byte[] tape, int size, int from) {
            boolean letters = isLetter(tape[from]);
            boolean digits = isDigit(tape[from]);
            for (int i = from + 1; i < size; i++) {
                boolean goesOn = (letters && isLetter(tape[i])) || (digits && isDigit(tape[i]));
                if (!goesOn) {
                    return i;
                }
            }
            return size;
        }

        private static boolean isLetter(int c) {
            return c >= 'a' && c <= 'z';
        }

        private static boolean isDigit(int c) {
            return c >= '0' && c <= '9';
        }

        private static int kindOf(byte[] tape, int from, int behind) {
            if (isLetter(tape[from])) {
                return wordKind(tape, from, behind - from);
            }
            if (isDigit(tape[from])) {
                return behind - from <= MOST_DIGITS ? NUMBER : NO_TOKEN;
            }
            switch (tape[from]) {
                case ':':
                    return COLON;
                case ';':
                    return SEMICOLON;
                case '=':
                    return EQUALS;
                case '-':
                    return MINUS;
                default:
                    return NO_TOKEN;
            }
        }

        private static int wordKind(byte[] tape, int from, int size) {
            for (int w = 0; w < WORD_KINDS; w++) {
                if (size < WORD_ROOM && isWord(tape, from, size, w)) {
                    return w;
                }
            }
            return NO_TOKEN;
        }

        private static boolean isWord(byte[] tape, int from, int size, int w) {
            for (int i = 0; i < size; i++) {
                if (tape[from + i] != WORDS.charAt(w * WORD_ROOM + i)) {
                    return false;
                }
            }
            return WORDS.charAt(w * WORD_ROOM + size) == ' ';
        }

        private static int numberOf(byte[] tape, int from, int behind) {
            int number = 0;
            for (int i = from; i < behind; i++) {
                number = number * 10 + (tape[i] - '0');
            }
            return number;
        }

        private boolean fail(int number) {
            fault = number;
            place = starts[at];
            return false;
        }

        private boolean take(int kind) {
            if (kinds[at] != kind) {
                return fail(SYNTAX);
            }
            if (at >= MOST_TOKENS) {
                return fail(ROOM);
            }
            at++;
            return true;
        }

        private void noteLate(int token) {
            if (latePlace == NONE || starts[token] < latePlace) {
                latePlace = starts[token];
            }
        }

        private boolean readCells() {
            for (int n = 0; n <= MOST_TOKENS && kinds[at] == CELL_WORD; n++) {
                if (!readCellLine()) {
                    return false;
                }
            }
            return true;
        }

        private boolean readCellLine() {
            if (!take(CELL_WORD) || !takeCell()) {
                return false;
            }
            int cell = value;
            int token = at - 1;
            if (!take(EQUALS) || !takeVal(false) || !take(SEMICOLON)) {
                return false;
            }
            if (cell < CELLS) {
                if (((told >> cell) & 1) != 0) {
                    noteLate(token);
                }
                told |= 1 << cell;
                draft.cells[cell] = value;
            }
            return true;
        }

        private boolean takeReg() {
            int kind = kinds[at];
            if (kind < REG_A || kind > REG_C) {
                return fail(SYNTAX);
            }
            valueReg = kind - REG_A;
            return take(kind);
        }

        private boolean takeCell() {
            value = numbers[at];
            if (!take(NUMBER)) {
                return false;
            }
            if (value >= CELLS) {
                noteLate(at - 1);
            }
            return true;
        }

        private boolean takeVal(boolean orReg) {
            int kind = kinds[at];
            if (orReg && kind >= REG_A && kind <= REG_C) {
                valueReg = kind - REG_A;
                value = 0;
                return take(kind);
            }
            if (kind == MINUS && !take(MINUS)) {
                return false;
            }
            valueReg = NONE;
            value = kind == MINUS ? -numbers[at] : numbers[at];
            return take(NUMBER);
        }

        private boolean takeSkip() {
            if (!take(SKIP_WORD)) {
                return false;
            }
            value = numbers[at];
            return take(NUMBER);
        }

        private boolean readCores() {
            for (int k = 0; k < MOST_CORES && (k == 0 || kinds[at] != TEXT_END); k++) {
                draft.cores = k + 1;
                if (!take(CORE_WORD) || !take(COLON)) {
                    return false;
                }
                for (int i = 0; i < MOST_INS && kinds[at] <= IF; i++) {
                    if (!readIns(k, i)) {
                        return false;
                    }
                }
                if (kinds[at] <= IF) {
                    return fail(ROOM);
                }
                if (!take(END_WORD)) {
                    return false;
                }
                checkSkips(k);
            }
            if (kinds[at] == TEXT_END) {
                return true;
            }
            return fail(kinds[at] == CORE_WORD ? ROOM : SYNTAX);
        }

        private boolean readIns(int k, int i) {
            int kind = kinds[at];
            if (!take(kind)) {
                return false;
            }
            int ins = draft.addBlank(k, kind);
            String shape = shapeOf(kind);
            for (int n = 0; n < shape.length(); n++) {
                if (!readPart(ins, shape.charAt(n))) {
                    return false;
                }
            }
            skipTokens[i] = at - 1;
            return take(SEMICOLON);
        }

        /** Of each part that comes behind the word a letter: REG, CELL, VAL, the second VAL, skip. */
        private static String shapeOf(int kind) {
            switch (kind) {
                case LOAD:
                case SWAP:
                    return "RC";
                case STORE:
                    return "CV";
                case SET:
                case ADD:
                    return "RV";
                case INC:
                    return "RCV";
                case CAS:
                    return "RCVW";
                case IF:
                    return "RS";
                default:
                    return "";
            }
        }

        private boolean readPart(int ins, char letter) {
            if (letter == 'R') {
                boolean isReg = takeReg();
                draft.parts[ins + Program.REG_PART] = valueReg;
                return isReg;
            }
            if (letter == 'C') {
                boolean isCell = takeCell();
                draft.parts[ins + Program.CELL_PART] = value;
                return isCell;
            }
            if (letter == 'S') {
                boolean isSkip = takeSkip();
                draft.parts[ins + Program.SKIP_PART] = value;
                return isSkip;
            }
            int which = letter == 'V' ? Program.FIRST_VAL : Program.SECOND_VAL;
            boolean isVal = takeVal(true);
            draft.parts[ins + which] = valueReg;
            draft.parts[ins + which + 1] = value;
            return isVal;
        }

        private void checkSkips(int k) {
            for (int i = 0; i < draft.lengths[k]; i++) {
                if (draft.part(k, i, Program.SKIP_PART) > draft.lengths[k] - 1 - i) {
                    noteLate(skipTokens[i]);
                }
            }
        }
    }

    /**
     * A STATE in one row of ints, the same for the same STATE: REGS, MEMORY (an OUTCOME is these), of
     * each CORE a word, and the ints of the ROWS, with 0 where no store waits.
     */
    private static final class State {
        static final int MEMORY_AT = REGS * MOST_CORES;
        static final int CORE_AT = MEMORY_AT + CELLS;
        static final int ROW_AT = CORE_AT + MOST_CORES;
        static final int WORDS = ROW_AT + MOST_CORES * MOST_INS;
        // A CORE's word from its lowest bit on: which INS is next, how many stores wait, their CELLS
        // (the eldest lowest), the CELLS stored to since its latest fence (a bit each).
        private static final int NEXT_MASK = 15;
        private static final int SIZE_SHIFT = 4;
        private static final int SIZE_MASK = 7;
        private static final int CELL_SHIFT = 7;
        private static final int CELL_BITS = 2;
        private static final int CELL_MASK = 3;
        private static final int ROW_CELLS_MASK = 4095;
        private static final int STORED_SHIFT = 19;
        private static final int STORED_MASK = 15;
        private static final int NEXT_AND_SIZE = 127;

        final int[] words = new int[WORDS];

        static int widthOf(Program p, int mode) {
            return mode == WITH_ROWS ? ROW_AT + p.cores * MOST_INS : ROW_AT;
        }

        void start(Program p) {
            Arrays.fill(words, 0);
            System.arraycopy(p.cells, 0, words, MEMORY_AT, CELLS);
        }

        int nextOf(int k) {
            return words[CORE_AT + k] & NEXT_MASK;
        }

        int rowSize(int k) {
            return (words[CORE_AT + k] >> SIZE_SHIFT) & SIZE_MASK;
        }

        int rowCell(int k, int i) {
            return (words[CORE_AT + k] >> (CELL_SHIFT + CELL_BITS * i)) & CELL_MASK;
        }

        int rowInt(int k, int i) {
            return words[ROW_AT + k * MOST_INS + i];
        }

        int storedTo(int k) {
            return (words[CORE_AT + k] >> STORED_SHIFT) & STORED_MASK;
        }

        boolean hasEnded(Program p) {
            for (int k = 0; k < p.cores; k++) {
                if ((words[CORE_AT + k] & NEXT_AND_SIZE) != p.lengths[k]) {
                    return false;
                }
            }
            return true;
        }

        boolean can(Program p, int s) {
            if (s >= GO && s < GO + MOST_CORES) {
                return rowSize(s - GO) > 0;
            }
            if (s < 0 || s >= p.cores) {
                return false;
            }
            int i = nextOf(s);
            return i < p.lengths[s] && (rowSize(s) == 0 || !waits(p.part(s, i, Program.KIND_PART)));
        }

        private static boolean waits(int kind) {
            return kind == FENCE || isLocked(kind);
        }

        static boolean isLocked(int kind) {
            return kind == SWAP || kind == INC || kind == CAS;
        }

        /** Does a step that can be done. */
        void move(Program p, int s, int mode) {
            if (s >= GO) {
                letGo(s - GO);
                return;
            }
            int[] parts = p.parts;
            int ins = Program.partsAt(s, nextOf(s));
            int cell = parts[ins + Program.CELL_PART];
            int reg = s * REGS + parts[ins + Program.REG_PART];
            words[CORE_AT + s]++;
            switch (parts[ins + Program.KIND_PART]) {
                case LOAD:
                    words[reg] = seen(s, cell);
                    break;
                case STORE:
                    put(s, cell, valueOf(parts, ins + Program.FIRST_VAL, s), mode);
                    break;
                case SET:
                    words[reg] = valueOf(parts, ins + Program.FIRST_VAL, s);
                    break;
                case ADD:
                    words[reg] += valueOf(parts, ins + Program.FIRST_VAL, s);
                    break;
                case IF:
                    words[CORE_AT + s] += words[reg] != 0 ? parts[ins + Program.SKIP_PART] : 0;
                    break;
                case FENCE:
                    forgetStored(s);
                    break;
                default:
                    lock(parts, ins, s);
                    forgetStored(s);
                    break;
            }
        }

        private void letGo(int k) {
            int row = ROW_AT + k * MOST_INS;
            int word = words[CORE_AT + k];
            words[MEMORY_AT + rowCell(k, 0)] = words[row];
            System.arraycopy(words, row + 1, words, row, MOST_INS - 1);
            words[row + MOST_INS - 1] = 0;
            int cells = ((word >> CELL_SHIFT) & ROW_CELLS_MASK) >> CELL_BITS;
            word = (word & ~(ROW_CELLS_MASK << CELL_SHIFT)) | (cells << CELL_SHIFT);
            words[CORE_AT + k] = word - (1 << SIZE_SHIFT);
        }

        private int seen(int k, int cell) {
            for (int i = rowSize(k) - 1; i >= 0; i--) {
                if (rowCell(k, i) == cell) {
                    return rowInt(k, i);
                }
            }
            return words[MEMORY_AT + cell];
        }

        private void put(int k, int cell, int value, int mode) {
            int size = rowSize(k);
            if (mode == WITH_ROWS && size < MOST_INS) {
                words[ROW_AT + k * MOST_INS + size] = value;
                words[CORE_AT + k] += 1 << SIZE_SHIFT;
                words[CORE_AT + k] |= cell << (CELL_SHIFT + CELL_BITS * size);
                return;
            }
            words[MEMORY_AT + cell] = value;
            if (mode == TRACKED) {
                words[CORE_AT + k] |= 1 << (STORED_SHIFT + cell);
            }
        }

        private int valueOf(int[] parts, int val, int k) {
            int reg = parts[val];
            return reg == NONE ? parts[val + 1] : words[k * REGS + reg];
        }

        private void lock(int[] parts, int ins, int k) {
            int kind = parts[ins + Program.KIND_PART];
            int cell = MEMORY_AT + parts[ins + Program.CELL_PART];
            int reg = k * REGS + parts[ins + Program.REG_PART];
            // Both VALS ahead of the step: the REG that it changes may be one of them.
            int first = valueOf(parts, ins + Program.FIRST_VAL, k);
            int second = valueOf(parts, ins + Program.SECOND_VAL, k);
            int had = words[cell];
            int was = words[reg];
            words[reg] = had;
            if (kind == SWAP) {
                words[cell] = was;
            } else if (kind == INC) {
                words[cell] = had + first;
            } else if (had == first) {
                words[cell] = second;
            }
        }

        private void forgetStored(int k) {
            words[CORE_AT + k] &= ~(STORED_MASK << STORED_SHIFT);
        }
    }

    /** A machine that does steps one by one; a step is taken back by doing those ahead of it again. */
    private static final class Machine {
        final State state = new State();
        boolean stands;
        int steps;
        private int mode;
        private final int[] done = new int[MOST_STEPS];

        void start(Program p, int startMode) {
            stands = true;
            mode = startMode;
            steps = 0;
            state.start(p);
        }

        boolean go(Program p, int s) {
            if (steps >= MOST_STEPS || !state.can(p, s)) {
                return false;
            }
            state.move(p, s, mode);
            done[steps] = s;
            steps++;
            return true;
        }

        boolean takeBack(Program p) {
            if (steps == 0) {
                return false;
            }
            steps--;
            state.start(p);
            for (int i = 0; i < steps; i++) {
                state.move(p, done[i], mode);
            }
            return true;
        }
    }

    /**
     * All STATES that a PROGRAM can come to, the nearest first: by trying the steps of each in their
     * order, each is met first by its SCHEDULE, and they are met in the order of their SCHEDULES.
     */
    private static final class Explorer {
        private static final int SLOTS = 4096;
        private static final int SLOT_MASK = SLOTS - 1;
        private static final int FIRST_ROOM = 1600;
        private static final int MOST_ROOM = MOST_STATES * State.WORDS;
        // A slot holds the number of a STATE and 1, below the high bits of what is hashed.
        private static final int NUMBER_MASK = 4095;
        private static final int CAME_SHIFT = 3;
        private static final int CAME_STEP = 7;

        int size;
        int endSize;
        final int[] ends = new int[MOST_STATES];
        final int[] path = new int[MOST_STEPS];
        final State state = new State();
        private final State moved = new State();
        private int width = State.WORDS;
        private int[] rows = new int[FIRST_ROOM];
        private final int[] slots = new int[SLOTS];
        // Of a STATE the number of the one ahead of it in its SCHEDULE and the step from there.
        private final int[] came = new int[MOST_STATES];

        /** Whether there are no more STATES than may be; else it has some of them. */
        boolean explore(Program p, int mode) {
            Arrays.fill(slots, 0);
            size = 0;
            endSize = 0;
            width = State.widthOf(p, mode);
            state.start(p);
            keep(state.words, NONE);
            for (int n = 0; n < size && n < MOST_STATES; n++) {
                fetch(n);
                if (state.hasEnded(p)) {
                    addEnd(n);
                }
                for (int s = 0; s < STEP_KINDS; s++) {
                    if (state.can(p, s)) {
                        System.arraycopy(state.words, 0, moved.words, 0, width);
                        moved.move(p, s, mode);
                        if (!keep(moved.words, (n << CAME_SHIFT) | s)) {
                            return false;
                        }
                    }
                }
            }
            return true;
        }

        void fetch(int n) {
            System.arraycopy(rows, n * width, state.words, 0, width);
        }

        private boolean keep(int[] words, int from) {
            int hash = hashOf(words);
            int slot = hash & SLOT_MASK;
            for (int tries = 0; tries < SLOTS; tries++) {
                int held = slots[slot];
                if (held == 0) {
                    return add(words, from, slot, hash);
                }
                if (((held ^ hash) & ~NUMBER_MASK) == 0 && isSame((held & NUMBER_MASK) - 1, words)) {
                    return true;
                }
                slot = (slot + 1) & SLOT_MASK;
            }
            return false;
        }

        private int hashOf(int[] words) {
            int hash = 0;
            for (int i = 0; i < width; i++) {
                hash = hash * 31 + words[i];
            }
            hash = (hash ^ (hash >>> 16)) * 0x85ebca6b;
            return hash ^ (hash >>> 13);
        }

        private boolean isSame(int n, int[] words) {
            int row = n * width;
            for (int i = 0; i < width; i++) {
                if (rows[row + i] != words[i]) {
                    return false;
                }
            }
            return true;
        }

        private boolean add(int[] words, int from, int slot, int hash) {
            if (size >= MOST_STATES) {
                return false;
            }
            if ((size + 1) * width > rows.length) {
                rows = Arrays.copyOf(rows, Math.min(rows.length * 4, MOST_ROOM));
            }
            System.arraycopy(words, 0, rows, size * width, width);
            came[size] = from;
            size++;
            slots[slot] = (hash & ~NUMBER_MASK) | size;
            return true;
        }

        private void addEnd(int n) {
            int low = 0;
            int high = endSize;
            for (int tries = 0; tries < MOST_STATES && low < high; tries++) {
                int middle = (low + high) / 2;
                if (isBefore(ends[middle], n)) {
                    low = middle + 1;
                } else {
                    high = middle;
                }
            }
            System.arraycopy(ends, low, ends, low + 1, endSize - low);
            ends[low] = n;
            endSize++;
        }

        private boolean isBefore(int one, int other) {
            for (int i = 0; i < OUTCOME_INTS; i++) {
                int a = rows[one * width + i];
                int b = rows[other * width + i];
                if (a != b) {
                    return a < b;
                }
            }
            return false;
        }

        int intOf(int n, int i) {
            return rows[n * width + i];
        }

        /** How many steps the SCHEDULE of a STATE has; they stand in the path then. */
        int pathTo(int n) {
            int steps = 0;
            int here = n;
            while (steps < MOST_STEPS && came[here] != NONE) {
                path[steps] = came[here] & CAME_STEP;
                here = came[here] >> CAME_SHIFT;
                steps++;
            }
            for (int i = 0; i < steps / 2; i++) {
                int swapped = path[i];
                path[i] = path[steps - 1 - i];
                path[steps - 1 - i] = swapped;
            }
            return steps;
        }
    }

    /** What came of exploring: how many STATES, and the OUTCOMES in their order with their SCHEDULES. */
    private static final class Findings {
        private static final int STEPS_A_WORD = 10;
        private static final int STEP_BITS = 3;
        private static final int STEP_MASK = 7;
        private static final int STEP_WORDS = (MOST_STEPS + STEPS_A_WORD - 1) / STEPS_A_WORD;
        private static final int RECORD = OUTCOME_INTS + STEP_WORDS;

        boolean known;
        boolean full;
        int states;
        int size;
        private int[] records = new int[RECORD];

        void fill(Explorer explored, boolean whole) {
            known = true;
            full = !whole;
            states = explored.size;
            size = whole ? explored.endSize : 0;
            if (size * RECORD > records.length) {
                records = new int[Math.min(2 * size, MOST_STATES) * RECORD];
            }
            for (int n = 0; n < size; n++) {
                record(explored, n);
            }
        }

        private void record(Explorer explored, int n) {
            int end = explored.ends[n];
            for (int i = 0; i < OUTCOME_INTS; i++) {
                records[n * RECORD + i] = explored.intOf(end, i);
            }
            int packed = n * RECORD + OUTCOME_INTS;
            Arrays.fill(records, packed, packed + STEP_WORDS, 0);
            int steps = explored.pathTo(end);
            for (int i = 0; i < steps; i++) {
                int bits = explored.path[i] + 1;
                records[packed + i / STEPS_A_WORD] |= bits << (STEP_BITS * (i % STEPS_A_WORD));
            }
        }

        boolean has(int n) {
            return n >= 0 && n < size;
        }

        int intOf(int n, int i) {
            return records[n * RECORD + i];
        }

        int stepOf(int n, int i) {
            if (i < 0 || i >= MOST_STEPS) {
                return NONE;
            }
            int word = records[n * RECORD + OUTCOME_INTS + i / STEPS_A_WORD];
            // No step is held as 0, which becomes NONE.
            return ((word >> (STEP_BITS * (i % STEPS_A_WORD))) & STEP_MASK) - 1;
        }

        int statesOrNone() {
            return full ? NONE : states;
        }

        int sizeOrNone() {
            return full ? NONE : size;
        }

        /** The number of the i-th OUTCOME that the other has not. */
        int numberOfOther(Findings other, int i) {
            int met = 0;
            int there = 0;
            for (int n = 0; n < size; n++) {
                while (there < other.size && other.compare(there, this, n) < 0) {
                    there++;
                }
                if (there >= other.size || other.compare(there, this, n) != 0) {
                    if (met == i) {
                        return n;
                    }
                    met++;
                }
            }
            return NONE;
        }

        private int compare(int n, Findings other, int m) {
            for (int i = 0; i < OUTCOME_INTS; i++) {
                int order = Integer.compare(intOf(n, i), other.intOf(m, i));
                if (order != 0) {
                    return order;
                }
            }
            return 0;
        }

        boolean isSame(Explorer explored) {
            if (explored.endSize != size) {
                return false;
            }
            for (int n = 0; n < size; n++) {
                for (int i = 0; i < OUTCOME_INTS; i++) {
                    if (intOf(n, i) != explored.intOf(explored.ends[n], i)) {
                        return false;
                    }
                }
            }
            return true;
        }
    }

    /** THE RACE of a PROGRAM, if it has one. */
    private static final class Race {
        private static final int FIRST_STEP = 3;

        boolean known;
        int answer;
        private int loader;
        private int writer;
        private int cell;
        private int steps;
        private final int[] path = new int[MOST_STEPS];

        void search(Program p, Explorer explorer) {
            known = true;
            answer = FULL;
            if (!explorer.explore(p, TRACKED)) {
                return;
            }
            answer = 0;
            for (int n = 0; n < explorer.size && answer == 0; n++) {
                explorer.fetch(n);
                if (isRace(p, explorer.state)) {
                    answer = 1;
                    steps = explorer.pathTo(n);
                    System.arraycopy(explorer.path, 0, path, 0, steps);
                }
            }
        }

        private boolean isRace(Program p, State state) {
            for (int r = 0; r < p.cores; r++) {
                int x = loadedCell(p, state, r);
                if (x != NONE && (state.storedTo(r) & ~(1 << x)) != 0) {
                    for (int w = 0; w < p.cores; w++) {
                        if (w != r && writes(p, state, w, x)) {
                            loader = r;
                            writer = w;
                            cell = x;
                            return true;
                        }
                    }
                }
            }
            return false;
        }

        private static int loadedCell(Program p, State state, int k) {
            int i = state.nextOf(k);
            boolean loads = i < p.lengths[k] && p.part(k, i, Program.KIND_PART) == LOAD;
            return loads ? p.part(k, i, Program.CELL_PART) : NONE;
        }

        private static boolean writes(Program p, State state, int k, int x) {
            int i = state.nextOf(k);
            if (i >= p.lengths[k] || p.part(k, i, Program.CELL_PART) != x) {
                return false;
            }
            int kind = p.part(k, i, Program.KIND_PART);
            return kind == STORE || State.isLocked(kind);
        }

        int tell(int what) {
            if (answer != 1 || what < 0) {
                return NONE;
            }
            switch (what) {
                case 0:
                    return loader;
                case 1:
                    return writer;
                case 2:
                    return cell;
                default:
                    int i = what - FIRST_STEP;
                    return i < steps ? path[i] : NONE;
            }
        }
    }

    /** The least CURE: sets of places are looked at by how few they are, and no set twice. */
    private static final class Cure {
        private final Program fenced = new Program();
        private int lookedSizes;
        private int answer = NONE;
        private final int[] looked = new int[MOST_CURE];
        // Of the latest answer of 0 or more, of this PROGRAM or one ahead of it.
        private int toldSize;
        private final int[] told = new int[MOST_CURE];

        void forgetSearch() {
            lookedSizes = 0;
            answer = NONE;
        }

        int least(Program p, Findings without, Explorer explorer, int n) {
            for (int size = lookedSizes; size <= n && answer == NONE; size++) {
                answer = without.full ? FULL : lookAtSize(p, without, explorer, size);
                lookedSizes = size + 1;
            }
            if (lookedSizes - 1 > n) {
                return NONE;
            }
            if (answer >= 0) {
                toldSize = answer;
                System.arraycopy(looked, 0, told, 0, MOST_CURE);
            }
            return answer;
        }

        private int lookAtSize(Program p, Findings without, Explorer explorer, int size) {
            int places = p.placesInAll();
            int firstEnd = size > 0 ? places : 1;
            int secondEnd = size > 1 ? places : 1;
            for (int a = 0; a < firstEnd; a++) {
                for (int b = size > 1 ? a + 1 : 0; b < secondEnd; b++) {
                    looked[0] = size > 0 ? p.placeOf(a) : NONE;
                    looked[1] = size > 1 ? p.placeOf(b) : NONE;
                    fenced.becomeFenced(p, looked[0], looked[1]);
                    if (!explorer.explore(fenced, WITH_ROWS)) {
                        return FULL;
                    }
                    if (without.isSame(explorer)) {
                        return size;
                    }
                }
            }
            return NONE;
        }

        int toldPlace(int i) {
            return i >= 0 && i < toldSize && i < MOST_CURE ? told[i] : NONE;
        }
    }
}
