import java.util.Arrays;

/** Makes texts of routines into code, lets passes tear it, and still tells each stop in the words of the text. */
public final class LineKeeper {
    public static final int NONE = -1;

    private static final int COPY = 0;
    private static final int PLUS = 1;
    private static final int MINUS = 2;
    private static final int TIMES = 3;
    private static final int EQUAL = 4;
    private static final int LESS = 5;
    private static final int OUT = 6;
    private static final int RETURN = 7;
    private static final int JUMP = 8;
    private static final int ZERO = 9;
    private static final int CALL = 10;
    private static final int LINE = 11;
    private static final int BIND = 12;
    private static final int LABEL = 13;
    private static final int ENTER = 14;
    private static final int LEAVE = 15;

    /** The cells of an ITEM: its kind, its number (r, name, LABEL, ..), its second number, four operands. */
    private static final int KIND = 0;
    private static final int X = 1;
    private static final int Y = 2;
    private static final int A_KIND = 3;
    private static final int A = 4;
    private static final int B_KIND = 5;
    private static final int B = 6;
    private static final int OPERANDS_END = 11;
    private static final int WHERE = 11;
    private static final int TARGET = 12;
    private static final int ROW = 13;

    private static final int CONST = 1;
    private static final int REG = 2;
    /** A WHERE from here on is a SUM; SUM_BASE more than its act. */
    private static final int SUM_BASE = 2;
    private static final int GONE = 10;
    private static final int NOT_THERE = 1;
    private static final int DROPPED = 2;
    private static final int WRITTEN_OVER = 3;
    private static final int DIFFERS = 4;

    private static final int MAX_TAPE = 1200;
    private static final int MAX_ROUTINES = 6;
    private static final int MAX_PARAMS = 4;
    private static final int MAX_NAMES = 12;
    private static final int MAX_STATEMENTS = 40;
    private static final int MAX_MADE = 120;
    private static final int MAX_ITEMS = 200;
    private static final int MAX_FRAMES = 12;
    private static final int MAX_MELT_REGISTERS = 100;
    private static final int MAX_MELT_ACTS = 20;
    private static final int MAX_E = 8;
    private static final int MAX_BLOCKS = 6;
    private static final int MAX_CALLS = 8;
    private static final int MAX_PRINTED = 200;
    private static final int MAX_GO = 20000;
    /** 120 made ITEMS write fewer than 120 new REGISTERS beside 12 names; melted code has at most 100. */
    private static final int MAX_REGISTERS = 192;
    private static final int WORDS = 3;
    private static final int ENDLESS = 1000000;

    /** Where item() finds what it is asked. */
    private static final int[] ASKED = {KIND, X, Y, A_KIND, B_KIND, A, B, WHERE};

    private final byte[] tape = new byte[MAX_TAPE];
    private int taped;
    private int routines;
    private final Code[] made = new Code[MAX_ROUTINES];
    private final Code[] codes = new Code[MAX_ROUTINES];
    private final Reader reader = new Reader();
    private final Flow flow = new Flow();
    private final Told tellings = new Told();
    private final Run theRun;
    private int readFault;
    private int readPlace = NONE;
    private final Rewriter rewriter = new Rewriter();
    private final Dropper dropper = new Dropper(flow);
    private final Melter melter = new Melter(flow);
    private final Sharer sharer = new Sharer(flow);
    private Beside pair;

    public LineKeeper() {
        for (int i = 0; i < MAX_ROUTINES; i++) {
            made[i] = new Code();
            codes[i] = new Code();
        }
        theRun = new Run(codes);
    }

    public int feed(int a, int b, int c, int d, int e) {
        if (taped + 20 > MAX_TAPE) {
            return NONE;
        }
        tapeNumber(a);
        tapeNumber(b);
        tapeNumber(c);
        tapeNumber(d);
        tapeNumber(e);
        return taped;
    }

    public int end(int n) {
        if (n < 0 || n > taped) {
            return NONE;
        }
        taped = n;
        return n;
    }

    public int read() {
        boolean good = reader.take(tape, taped);
        taped = 0;
        readFault = reader.fault;
        readPlace = good ? NONE : reader.place;
        if (!good) {
            return NONE;
        }
        routines = Math.min(reader.routines, MAX_ROUTINES);
        for (int i = 0; i < routines; i++) {
            takeMade(i);
        }
        theRun.forget();
        return routines;
    }

    public int fault(int what) {
        if (what == 0) {
            return readFault;
        }
        return what == 1 ? readPlace : NONE;
    }

    public int routine(int r, int what) {
        Code code = codeOf(r);
        if (code == null || what < 0) {
            return NONE;
        }
        switch (what) {
            case 0: return code.count;
            case 1: return code.acts();
            case 2: return code.names;
            case 3: return code.params;
            case 4: return code.registers();
            case 5: return code.frames;
            case 6: return code.firstLine;
            default: return what - 7 < code.names ? code.homeOf(0, what - 7) : NONE;
        }
    }

    public int item(int r, int k, int what) {
        Code code = codeOf(r);
        if (code == null || k < 0 || k >= code.count || what < 0 || what >= ASKED.length) {
            return NONE;
        }
        return code.get(k, ASKED[what]);
    }

    public int frame(int r, int f, int what) {
        Code code = codeOf(r);
        if (code == null || f < 0 || f >= code.frames) {
            return NONE;
        }
        switch (what) {
            case 0: return at(code.frameRoutine, f);
            case 1: return f == 0 ? NONE : at(code.frameParent, f);
            case 2: return at(code.frameLine, f);
            default: return NONE;
        }
    }

    public int told(int r, int k, int f, int name, int what) {
        Code code = codeOf(r);
        if (code == null || k < 0 || k > code.count || !code.hasName(f, name) || what < 0 || what > 4) {
            return NONE;
        }
        tellings.refresh(r, code);
        int id = tellings.idIn(r, tellings.slotAt(code, k, f) + name);
        switch (what) {
            case 0: return tellings.whereOf(code, id);
            case 1: return tellings.part(code, id, A_KIND);
            case 2: return tellings.part(code, id, B_KIND);
            case 3: return tellings.part(code, id, A);
            default: return tellings.part(code, id, B);
        }
    }

    public int pass(int kind, int r) {
        Code code = codeOf(r);
        if (code == null || kind < 0 || kind > 5) {
            return NONE;
        }
        int answer = tear(kind, r, code);
        code.link();
        tellings.spoil(r);
        theRun.forget();
        return answer;
    }

    public boolean start(int r, int a, int b, int c, int d) {
        if (codeOf(r) == null) {
            return false;
        }
        theRun.begin(r, a, b, c, d);
        return true;
    }

    public int go(int how, int n) {
        if (how < 0 || how > 2 || n < 1 || n > MAX_GO || theRun.state == Run.NO_RUN) {
            return NONE;
        }
        return theRun.advance(how, n);
    }

    public int stack(int k, int what) {
        if (what < 0 || what > 2 || !theRun.find(k)) {
            return NONE;
        }
        if (what == 1) {
            return theRun.foundLine();
        }
        return what == 0 ? theRun.foundRoutine() : theRun.foundNames();
    }

    public int known(int k, int name) {
        if (!theRun.find(k) || name < 0 || name >= theRun.foundNames()) {
            return NONE;
        }
        tellings.refresh(theRun.foundSource(), theRun.foundCode());
        int where = tellings.whereOf(theRun.foundCode(), theRun.foundId(tellings, name));
        return where >= GONE ? where : 1;
    }

    public int value(int k, int name) {
        if (!theRun.find(k) || name < 0 || name >= theRun.foundNames()) {
            return 0;
        }
        tellings.refresh(theRun.foundSource(), theRun.foundCode());
        return theRun.foundValue(tellings, theRun.foundId(tellings, name));
    }

    public int run(int what) {
        if (theRun.state == Run.NO_RUN) {
            return NONE;
        }
        switch (what) {
            case 0: return theRun.state == Run.OVER ? NONE : theRun.place();
            case 1: return theRun.prints;
            case 2: return theRun.gone;
            case 3: return theRun.returned;
            case 4: return theRun.depth;
            case 5: return theRun.state == Run.FAILED ? 1 : 0;
            default: return NONE;
        }
    }

    public int printed(int i) {
        if (theRun.state == Run.NO_RUN || i < 0 || i >= theRun.prints) {
            return 0;
        }
        return at(theRun.out, i);
    }

    public int beside(int r, int a, int b, int c, int d, int n) {
        if (codeOf(r) == null || n < 1 || n > MAX_GO) {
            return NONE;
        }
        if (pair == null) {
            pair = new Beside(codes, made);
        }
        for (int i = 0; i < routines; i++) {
            tellings.refresh(i, codeOf(i));
        }
        pair.torn.begin(r, a, b, c, d);
        pair.plain.begin(r, a, b, c, d);
        return pair.together(tellings, n);
    }

    public int compared(int what) {
        if (pair == null) {
            return NONE;
        }
        switch (what) {
            case 0: return pair.knownNames;
            case 1: return pair.goneNames;
            case 2: return pair.ending;
            default: return NONE;
        }
    }

    private void tapeNumber(int number) {
        for (int shift = 24; shift >= 0; shift -= 8) {
            if (taped >= 0 && taped < tape.length) {
                tape[taped] = (byte) (number >>> shift);
                taped++;
            }
        }
    }

    /** The reader's code is taken over by exchange, so that no read makes new rows. */
    private void takeMade(int r) {
        if (r < 0 || r >= made.length || r >= codes.length || codes[r] == null || made[r] == null) {
            return;
        }
        made[r] = reader.exchange(r, made[r]);
        made[r].link();
        codes[r].copyFrom(made[r]);
        tellings.spoil(r);
    }

    private Code codeOf(int r) {
        return r >= 0 && r < routines && r < codes.length ? codes[r] : null;
    }

    private int tear(int kind, int r, Code code) {
        switch (kind) {
            case 0: return rewriter.fold(code);
            case 1: return dropper.drop(code);
            case 2: return rewriter.move(code);
            case 3: return rewriter.alike(code);
            case 4: return melter.melt(codes, routines, r, code);
            default: return sharer.share(code);
        }
    }

    private static int at(int[] row, int i) {
        return row != null && i >= 0 && i < row.length ? row[i] : 0;
    }

    private static void put(int[] row, int i, int number) {
        if (row != null && i >= 0 && i < row.length) {
            row[i] = number;
        }
    }

    private static long bitsAt(long[] row, int i) {
        return row != null && i >= 0 && i < row.length ? row[i] : 0L;
    }

    private static void putBits(long[] row, int i, long bits) {
        if (row != null && i >= 0 && i < row.length) {
            row[i] = bits;
        }
    }

    /** Whether a set of REGISTERS (the k-th of its row) has r. */
    private static boolean has(long[] sets, int k, int r) {
        return r >= 0 && r < MAX_REGISTERS && (bitsAt(sets, k * WORDS + (r >> 6)) >>> (r & 63) & 1L) != 0;
    }

    private static void include(long[] sets, int k, int r) {
        if (r >= 0 && r < MAX_REGISTERS) {
            int i = k * WORDS + (r >> 6);
            putBits(sets, i, bitsAt(sets, i) | 1L << (r & 63));
        }
    }

    private static void exclude(long[] sets, int k, int r) {
        if (r >= 0 && r < MAX_REGISTERS) {
            int i = k * WORDS + (r >> 6);
            putBits(sets, i, bitsAt(sets, i) & ~(1L << (r & 63)));
        }
    }

    private static void clear(long[] row, int n) {
        Arrays.fill(row, 0, Math.max(0, Math.min(n, row.length)), 0L);
    }

    private static boolean isFive(int kind) {
        return kind >= PLUS && kind <= LESS;
    }

    private static boolean isPure(int kind) {
        return kind >= COPY && kind <= LESS;
    }

    private static boolean isAct(int kind) {
        return kind >= COPY && kind <= CALL;
    }

    private static int reckon(int kind, int a, int b) {
        switch (kind) {
            case PLUS: return a + b;
            case MINUS: return a - b;
            case TIMES: return a * b;
            case EQUAL: return a == b ? 1 : 0;
            case LESS: return a < b ? 1 : 0;
            default: return a;
        }
    }

    /** The code of one routine: its ITEMS in rows of cells, its FRAMES, and the REGISTERS of their names. */
    private static final class Code {
        int[] cells = new int[16 * ROW];
        int count;
        int names;
        int params;
        int firstLine;
        int frames;
        final int[] frameRoutine = new int[MAX_FRAMES];
        final int[] frameParent = new int[MAX_FRAMES];
        final int[] frameLine = new int[MAX_FRAMES];
        final int[] frameNames = new int[MAX_FRAMES];
        final int[] home = new int[MAX_FRAMES * MAX_NAMES];
        private final int[] lifted = new int[ROW];

        void empty(int routine) {
            count = 0;
            names = 0;
            params = 0;
            firstLine = 0;
            frames = 1;
            put(frameRoutine, 0, routine);
            put(frameParent, 0, NONE);
            put(frameLine, 0, 0);
            put(frameNames, 0, 0);
        }

        int get(int k, int cell) {
            int i = k * ROW + cell;
            return k >= 0 && k < count && i >= 0 && i < cells.length ? cells[i] : 0;
        }

        void set(int k, int cell, int number) {
            int i = k * ROW + cell;
            if (k >= 0 && k < count && i >= 0 && i < cells.length) {
                cells[i] = number;
            }
        }

        /** No ITEM has the kind NONE, so that one beyond the code is none of any kind. */
        int kindAt(int k) {
            return k >= 0 && k < count && k * ROW < cells.length ? cells[k * ROW] : NONE;
        }

        int homeOf(int f, int name) {
            return at(home, f * MAX_NAMES + name);
        }

        /** The place of a name among all names of all FRAMES; 0 is no name's, so that each code has a place. */
        int slotOf(int f, int name) {
            int slot = 1 + name;
            for (int i = 0; i < f && i < frameNames.length; i++) {
                slot += frameNames[i];
            }
            return slot;
        }

        boolean hasName(int f, int name) {
            return f >= 0 && f < frames && name >= 0 && name < at(frameNames, f);
        }

        private boolean holdRows(int rows) {
            if (rows < 0 || rows > MAX_ITEMS) {
                return false;
            }
            if (rows * ROW > cells.length) {
                int twice = Math.min(MAX_ITEMS * ROW, 2 * cells.length);
                cells = Arrays.copyOf(cells, Math.max(rows * ROW, twice));
            }
            return true;
        }

        /** An ITEM comes behind the last; those that no code may have are counted, not kept. */
        void append(int kind, int x, int y) {
            int i = count * ROW;
            count++;
            if (i + ROW > cells.length && count <= MAX_ITEMS) {
                cells = Arrays.copyOf(cells, Math.min(MAX_ITEMS * ROW, 2 * cells.length));
            }
            if (i >= 0 && i + ROW <= cells.length) {
                Arrays.fill(cells, i, i + ROW, 0);
                cells[i + KIND] = kind;
                cells[i + X] = x;
                cells[i + Y] = y;
            }
        }

        /** Operand i of the last ITEM. */
        void lastOperand(int i, int kind, int number) {
            int cell = (count - 1) * ROW + A_KIND + 2 * i;
            if (i >= 0 && i < MAX_PARAMS && cell >= 0 && cell + 1 < cells.length) {
                cells[cell] = kind;
                cells[cell + 1] = number;
            }
        }

        /** Makes n empty rows, the first of them the new row k. */
        boolean openRows(int k, int n) {
            if (n < 0 || k < 0 || k > count || !holdRows(count + n)) {
                return false;
            }
            System.arraycopy(cells, k * ROW, cells, (k + n) * ROW, (count - k) * ROW);
            Arrays.fill(cells, k * ROW, (k + n) * ROW, 0);
            count += n;
            return true;
        }

        void removeRow(int k) {
            if (k >= 0 && k < count && count * ROW <= cells.length) {
                System.arraycopy(cells, (k + 1) * ROW, cells, k * ROW, (count - k - 1) * ROW);
                count--;
            }
        }

        /** The ITEM goes right ahead of another one that stands ahead of it. */
        void liftRow(int from, int to) {
            if (to < 0 || to > from || from >= count || count * ROW > cells.length) {
                return;
            }
            System.arraycopy(cells, from * ROW, lifted, 0, ROW);
            System.arraycopy(cells, to * ROW, cells, (to + 1) * ROW, (from - to) * ROW);
            System.arraycopy(lifted, 0, cells, to * ROW, ROW);
        }

        void copyFrom(Code other) {
            if (!holdRows(other.count)) {
                return;
            }
            count = other.count;
            names = other.names;
            params = other.params;
            firstLine = other.firstLine;
            frames = other.frames;
            System.arraycopy(other.cells, 0, cells, 0, count * ROW);
            System.arraycopy(other.frameRoutine, 0, frameRoutine, 0, MAX_FRAMES);
            System.arraycopy(other.frameParent, 0, frameParent, 0, MAX_FRAMES);
            System.arraycopy(other.frameLine, 0, frameLine, 0, MAX_FRAMES);
            System.arraycopy(other.frameNames, 0, frameNames, 0, MAX_FRAMES);
            System.arraycopy(other.home, 0, home, 0, MAX_FRAMES * MAX_NAMES);
        }

        /** Jumps keep the row of their LABEL, so that runs need not look for it. */
        void link() {
            for (int k = 0; k < count; k++) {
                int kind = get(k, KIND);
                if (kind == JUMP || kind == ZERO) {
                    set(k, TARGET, rowOfLabel(get(k, X)));
                }
            }
        }

        private int rowOfLabel(int label) {
            for (int k = 0; k < count; k++) {
                if (get(k, KIND) == LABEL && get(k, X) == label) {
                    return k;
                }
            }
            return NONE;
        }

        int writtenBy(int k) {
            int kind = kindAt(k);
            return isPure(kind) || kind == CALL ? get(k, X) : NONE;
        }

        boolean fallsOn(int k) {
            int kind = kindAt(k);
            return kind != JUMP && kind != RETURN;
        }

        int targetOf(int k) {
            int kind = kindAt(k);
            return kind == JUMP || kind == ZERO ? get(k, TARGET) : NONE;
        }

        boolean leansOn(int k, int r) {
            if (kindAt(k) != BIND) {
                return false;
            }
            int where = get(k, WHERE);
            if (where == REG) {
                return get(k, A) == r;
            }
            return get(k, A_KIND) == REG && get(k, A) == r || get(k, B_KIND) == REG && get(k, B) == r;
        }

        void setWhere(int k, int where, int number) {
            set(k, WHERE, where);
            set(k, A_KIND, 0);
            set(k, A, number);
            set(k, B_KIND, 0);
            set(k, B, 0);
        }

        boolean sameWhere(int k, int j) {
            return get(k, WHERE) == get(j, WHERE) && sameOperands(k, j);
        }

        boolean sameOperands(int k, int j) {
            return get(k, A_KIND) == get(j, A_KIND) && get(k, A) == get(j, A)
                && get(k, B_KIND) == get(j, B_KIND) && get(k, B) == get(j, B);
        }

        /** An ITEM becomes COPY of one operand to the REGISTER that it wrote. */
        void becomeCopy(int k, int kind, int number) {
            set(k, KIND, COPY);
            set(k, A_KIND, kind);
            set(k, A, number);
            set(k, B_KIND, 0);
            set(k, B, 0);
        }

        int acts() {
            int n = 0;
            for (int k = 0; k < count; k++) {
                if (isAct(get(k, KIND))) {
                    n++;
                }
            }
            return n;
        }

        int registers() {
            int most = NONE;
            for (int f = 0; f < frames; f++) {
                for (int name = 0; name < at(frameNames, f); name++) {
                    most = Math.max(most, homeOf(f, name));
                }
            }
            for (int k = 0; k < count; k++) {
                most = Math.max(most, greatestIn(k));
            }
            return most + 1;
        }

        private int greatestIn(int k) {
            int most = writtenBy(k);
            if (get(k, KIND) == BIND && get(k, WHERE) == REG) {
                return get(k, A);
            }
            for (int cell = A_KIND; cell < OPERANDS_END; cell += 2) {
                if (get(k, cell) == REG) {
                    most = Math.max(most, get(k, cell + 1));
                }
            }
            return most;
        }

        int greatestLabel() {
            int most = NONE;
            for (int k = 0; k < count; k++) {
                int kind = get(k, KIND);
                if (kind == JUMP || kind == ZERO || kind == LABEL) {
                    most = Math.max(most, get(k, X));
                }
            }
            return most;
        }

        boolean isHome(int r) {
            for (int f = 0; f < frames; f++) {
                for (int name = 0; name < at(frameNames, f); name++) {
                    if (homeOf(f, name) == r) {
                        return true;
                    }
                }
            }
            return false;
        }
    }

    /** The tokens of a tape. A sign's kind is its byte; other kinds lie beyond all bytes. */
    private static final class Tokens {
        static final int NAME = 256;
        static final int NUMBER = 257;
        static final int WORD_OUT = 258;
        static final int WORD_RETURN = 259;
        static final int WORD_IF = 260;
        static final int WORD_ELSE = 261;
        static final int WORD_WHILE = 262;
        static final int BAD = 263;
        static final int TAPE_END = 264;
        static final int MAX_LETTERS = 6;
        static final int MAX_DIGITS = 7;
        /** The words, each as its letters' places in the alphabet, five bits a letter. */
        static final int[] WORD_KEYS = {
            ('o' - 96) << 10 | ('u' - 96) << 5 | ('t' - 96),
            ('r' - 96) << 25 | ('e' - 96) << 20 | ('t' - 96) << 15 | ('u' - 96) << 10 | ('r' - 96) << 5 | ('n' - 96),
            ('i' - 96) << 5 | ('f' - 96),
            ('e' - 96) << 15 | ('l' - 96) << 10 | ('s' - 96) << 5 | ('e' - 96),
            ('w' - 96) << 20 | ('h' - 96) << 15 | ('i' - 96) << 10 | ('l' - 96) << 5 | ('e' - 96)};
        static final char[] SIGNS = {'(', ')', '{', '}', ',', ';', '=', '<', '+', '-', '*'};

        final int[] kinds = new int[MAX_TAPE + 1];
        final int[] numbers = new int[MAX_TAPE + 1];
        final int[] places = new int[MAX_TAPE + 1];
        /** The token that is looked at: its index, kind, number or key, and place. */
        int index;
        int kind;
        int number;
        int place;

        /** Stands at the first token then. No text goes on behind a bad one, so none is looked for there. */
        void scan(byte[] tape, int taped) {
            int length = Math.max(0, Math.min(taped, tape.length));
            int n = 0;
            int i = 0;
            kind = TAPE_END;
            while (i < length && kind != BAD) {
                if (tape[i] == ' ' || tape[i] == '\n') {
                    i++;
                } else {
                    place = i;
                    i = scanOne(tape, length, i);
                    keep(n);
                    n++;
                }
            }
            if (kind != BAD) {
                kind = TAPE_END;
                place = length;
                keep(n);
            }
            index = -1;
            next();
        }

        private void keep(int n) {
            put(kinds, n, kind);
            put(numbers, n, number);
            put(places, n, place);
        }

        /** Takes the token at i: what stands behind it. */
        private int scanOne(byte[] tape, int length, int i) {
            int end = i;
            number = 0;
            while (end < length && tape[end] >= 'a' && tape[end] <= 'z') {
                number = number << 5 | (tape[end] - 96);
                end++;
            }
            if (end > i) {
                kind = end - i > MAX_LETTERS ? BAD : wordKind();
                return end;
            }
            while (end < length && tape[end] >= '0' && tape[end] <= '9') {
                number = number * 10 + (tape[end] - '0');
                end++;
            }
            if (end > i) {
                kind = end - i > MAX_DIGITS ? BAD : NUMBER;
                return end;
            }
            kind = isSign(tape[i]) ? tape[i] : BAD;
            return i + 1;
        }

        private int wordKind() {
            for (int i = 0; i < WORD_KEYS.length; i++) {
                if (WORD_KEYS[i] == number) {
                    return WORD_OUT + i;
                }
            }
            return NAME;
        }

        private static boolean isSign(int one) {
            for (int i = 0; i < SIGNS.length; i++) {
                if (SIGNS[i] == one) {
                    return true;
                }
            }
            return false;
        }

        /** The last token, the end or a bad one, stays for good. */
        void next() {
            if (index + 1 < kinds.length && index + 1 < numbers.length && index + 1 < places.length
                && (index < 0 || kind != TAPE_END && kind != BAD)) {
                index++;
                kind = kinds[index];
                number = numbers[index];
                place = places[index];
            }
        }

        boolean nextIs(char sign) {
            return kind != TAPE_END && kind != BAD && at(kinds, index + 1) == sign;
        }
    }

    /** Reads a text and makes its code on the way; each part answers false when no text goes on. */
    private static final class Reader {
        /** New REGISTERS are numbered from here on until it is known how many names a routine has. */
        static final int NEW_BASE = 1000;
        /** A routine takes five bytes and a call six. */
        static final int MAX_LISTED = 256;

        final Tokens tokens = new Tokens();
        /** One more than there may be: the code of any routine beyond goes to the last one, unused. */
        final Code[] spare = new Code[MAX_ROUTINES + 1];
        Code code;
        final int[] routineKey = new int[MAX_LISTED];
        final int[] routineParams = new int[MAX_LISTED];
        int routines;
        final int[] callKey = new int[MAX_LISTED];
        final int[] callPlace = new int[MAX_LISTED];
        final int[] callCount = new int[MAX_LISTED];
        int calls;
        int fault;
        int place;
        int statements;
        int labels;
        int news;
        final int[] nameKey = new int[MAX_NAMES];
        final int[] arguments = new int[2 * MAX_PARAMS];
        int partKind;
        int part;

        Reader() {
            for (int i = 0; i < spare.length; i++) {
                spare[i] = new Code();
            }
            code = spare[0];
        }

        Code exchange(int r, Code other) {
            if (r < 0 || r >= spare.length || spare[r] == null) {
                return other;
            }
            Code mine = spare[r];
            spare[r] = other;
            return mine;
        }

        boolean take(byte[] tape, int taped) {
            fault = 0;
            place = NONE;
            routines = 0;
            calls = 0;
            statements = 0;
            tokens.scan(tape, taped);
            for (int i = 0; i < MAX_TAPE && tokens.kind != Tokens.TAPE_END; i++) {
                int where = tokens.place;
                if (!header() || !block(1)) {
                    return false;
                }
                closeRoutine(where);
            }
            return settleCalls();
        }

        private boolean refuse() {
            fault = 1;
            place = tokens.place;
            return false;
        }

        /** Of the faults 2 to 5 the first by places counts, at one place the least. */
        private void note(int which, int where) {
            if (fault == 0 || where < place || where == place && which < fault) {
                fault = which;
                place = where;
            }
        }

        private boolean taken(char sign) {
            if (tokens.kind != sign) {
                return refuse();
            }
            tokens.next();
            return true;
        }

        private boolean header() {
            if (tokens.kind != Tokens.NAME) {
                return refuse();
            }
            openRoutine(tokens.number);
            tokens.next();
            return taken('(') && parameters() && taken(')');
        }

        private void openRoutine(int key) {
            if (routineOf(key) != NONE) {
                note(2, tokens.place);
            }
            if (routines >= MAX_ROUTINES) {
                note(5, tokens.place);
            }
            int i = Math.max(0, Math.min(routines, spare.length - 1));
            code = spare[i];
            code.empty(i);
            put(routineKey, routines, key);
            put(routineParams, routines, 0);
            routines = Math.min(routines + 1, MAX_LISTED);
            labels = 0;
            news = 0;
        }

        private void closeRoutine(int where) {
            code.append(RETURN, 0, 0);
            code.lastOperand(0, CONST, 0);
            if (code.count > MAX_MADE) {
                note(5, where);
            }
            put(code.frameNames, 0, code.names);
            for (int name = 0; name < code.names; name++) {
                put(code.home, name, name);
            }
            for (int k = 0; k < code.count && k < MAX_MADE; k++) {
                numberNew(k);
            }
        }

        private void numberNew(int k) {
            if (code.writtenBy(k) >= NEW_BASE) {
                code.set(k, X, code.get(k, X) - NEW_BASE + code.names);
            }
            for (int cell = A_KIND; cell < OPERANDS_END; cell += 2) {
                if (code.get(k, cell) == REG && code.get(k, cell + 1) >= NEW_BASE) {
                    code.set(k, cell + 1, code.get(k, cell + 1) - NEW_BASE + code.names);
                }
            }
        }

        private boolean parameters() {
            if (tokens.kind == ')') {
                return true;
            }
            for (int i = 0; i < MAX_TAPE; i++) {
                if (tokens.kind != Tokens.NAME) {
                    return refuse();
                }
                parameter(i + 1);
                tokens.next();
                if (tokens.kind != ',') {
                    return true;
                }
                tokens.next();
            }
            return refuse();
        }

        private void parameter(int count) {
            if (nameIndex(tokens.number) != NONE) {
                note(2, tokens.place);
            }
            if (count > MAX_PARAMS) {
                note(5, tokens.place);
            }
            register();
            put(routineParams, routines - 1, count);
            code.params = Math.min(count, MAX_PARAMS);
        }

        private int nameIndex(int key) {
            for (int i = 0; i < code.names && i < nameKey.length; i++) {
                if (nameKey[i] == key) {
                    return i;
                }
            }
            return NONE;
        }

        /** The REGISTER of the name at this token. */
        private int register() {
            int i = nameIndex(tokens.number);
            if (i != NONE) {
                return i;
            }
            if (code.names >= MAX_NAMES) {
                note(5, tokens.place);
                return 0;
            }
            put(nameKey, code.names, tokens.number);
            code.names++;
            return code.names - 1;
        }

        private boolean block(int depth) {
            if (depth > MAX_BLOCKS || !taken('{')) {
                return refuse();
            }
            for (int i = 0; i < MAX_TAPE && tokens.kind != '}'; i++) {
                if (!statement(depth)) {
                    return false;
                }
            }
            return taken('}');
        }

        private boolean statement(int depth) {
            statements++;
            if (statements > MAX_STATEMENTS) {
                note(5, tokens.place);
            }
            if (code.firstLine == 0) {
                code.firstLine = statements;
            }
            switch (tokens.kind) {
                case Tokens.NAME: return assignment();
                case Tokens.WORD_OUT: return single(OUT);
                case Tokens.WORD_RETURN: return single(RETURN);
                case Tokens.WORD_IF: return choice(depth);
                case Tokens.WORD_WHILE: return ring(depth);
                default: return refuse();
            }
        }

        private boolean assignment() {
            code.append(LINE, statements, 0);
            int r = register();
            tokens.next();
            if (!taken('=')) {
                return false;
            }
            boolean good = tokens.kind == Tokens.NAME && tokens.nextIs('(') ? call(r) : setting(r);
            code.append(BIND, r, 0);
            code.setWhere(code.count - 1, REG, r);
            return good;
        }

        private boolean setting(int r) {
            if (!expression(1) || !taken(';')) {
                return false;
            }
            code.append(COPY, r, 0);
            code.lastOperand(0, partKind, part);
            return true;
        }

        private boolean call(int r) {
            int key = tokens.number;
            int where = tokens.place;
            tokens.next();
            tokens.next();
            int n = 0;
            Arrays.fill(arguments, 0);
            for (int i = 0; i < MAX_TAPE && (tokens.kind != ')' || n > 0); i++) {
                if (!expression(1)) {
                    return false;
                }
                put(arguments, 2 * n, partKind);
                put(arguments, 2 * n + 1, part);
                n++;
                if (tokens.kind != ',') {
                    break;
                }
                tokens.next();
            }
            if (!taken(')') || !taken(';')) {
                return false;
            }
            listCall(key, where, n);
            code.append(CALL, r, key);
            for (int i = 0; i < MAX_PARAMS; i++) {
                code.lastOperand(i, at(arguments, 2 * i), at(arguments, 2 * i + 1));
            }
            return true;
        }

        private boolean single(int kind) {
            code.append(LINE, statements, 0);
            tokens.next();
            if (!expression(1) || !taken(';')) {
                return false;
            }
            code.append(kind, 0, 0);
            code.lastOperand(0, partKind, part);
            return true;
        }

        private boolean choice(int depth) {
            code.append(LINE, statements, 0);
            tokens.next();
            if (!expression(1)) {
                return false;
            }
            int first = zeroToNew();
            if (!block(depth + 1)) {
                return false;
            }
            if (tokens.kind != Tokens.WORD_ELSE) {
                code.append(LABEL, first, 0);
                return true;
            }
            int other = newLabel();
            code.append(JUMP, other, 0);
            code.append(LABEL, first, 0);
            tokens.next();
            if (!block(depth + 1)) {
                return false;
            }
            code.append(LABEL, other, 0);
            return true;
        }

        private boolean ring(int depth) {
            int first = newLabel();
            code.append(LABEL, first, 0);
            code.append(LINE, statements, 0);
            tokens.next();
            if (!expression(1)) {
                return false;
            }
            int other = zeroToNew();
            if (!block(depth + 1)) {
                return false;
            }
            code.append(JUMP, first, 0);
            code.append(LABEL, other, 0);
            return true;
        }

        private int newLabel() {
            labels++;
            return labels - 1;
        }

        private int zeroToNew() {
            int label = newLabel();
            code.append(ZERO, label, 0);
            code.lastOperand(0, partKind, part);
            return label;
        }

        private boolean expression(int depth) {
            if (depth > MAX_E) {
                return refuse();
            }
            if (!sum(depth)) {
                return false;
            }
            if (tokens.kind != '=' && tokens.kind != '<') {
                return true;
            }
            int kind = tokens.kind == '=' ? EQUAL : LESS;
            int leftKind = partKind;
            int left = part;
            tokens.next();
            if (!sum(depth)) {
                return false;
            }
            join(kind, leftKind, left);
            return true;
        }

        private boolean sum(int depth) {
            if (!term(depth)) {
                return false;
            }
            for (int i = 0; i < MAX_TAPE && (tokens.kind == '+' || tokens.kind == '-'); i++) {
                int kind = tokens.kind == '+' ? PLUS : MINUS;
                int leftKind = partKind;
                int left = part;
                tokens.next();
                if (!term(depth)) {
                    return false;
                }
                join(kind, leftKind, left);
            }
            return true;
        }

        private boolean term(int depth) {
            if (!factor(depth)) {
                return false;
            }
            for (int i = 0; i < MAX_TAPE && tokens.kind == '*'; i++) {
                int leftKind = partKind;
                int left = part;
                tokens.next();
                if (!factor(depth)) {
                    return false;
                }
                join(TIMES, leftKind, left);
            }
            return true;
        }

        private boolean factor(int depth) {
            if (tokens.kind != '-') {
                return atom(depth);
            }
            tokens.next();
            if (!atom(depth)) {
                return false;
            }
            join(MINUS, CONST, 0);
            return true;
        }

        private boolean atom(int depth) {
            if (tokens.kind == '(') {
                tokens.next();
                return expression(depth + 1) && taken(')');
            }
            if (tokens.kind == Tokens.NUMBER) {
                partKind = CONST;
                part = tokens.number;
            } else if (tokens.kind == Tokens.NAME) {
                partKind = REG;
                part = register();
            } else {
                return refuse();
            }
            tokens.next();
            return true;
        }

        /** One of the five of the left part and the latest part; its result is the latest part then. */
        private void join(int kind, int leftKind, int left) {
            int r = NEW_BASE + news;
            news++;
            code.append(kind, r, 0);
            code.lastOperand(0, leftKind, left);
            code.lastOperand(1, partKind, part);
            partKind = REG;
            part = r;
        }

        private void listCall(int key, int where, int n) {
            put(callKey, calls, key);
            put(callPlace, calls, where);
            put(callCount, calls, n);
            calls = Math.min(calls + 1, MAX_LISTED);
        }

        private int routineOf(int key) {
            for (int i = 0; i < routines; i++) {
                if (at(routineKey, i) == key) {
                    return i;
                }
            }
            return NONE;
        }

        /** Calls may go to later routines, so that they are looked at when all are known. */
        private boolean settleCalls() {
            for (int i = 0; i < calls; i++) {
                int r = routineOf(at(callKey, i));
                if (r == NONE) {
                    note(3, at(callPlace, i));
                } else if (at(routineParams, r) != at(callCount, i)) {
                    note(4, at(callPlace, i));
                }
            }
            for (int i = 0; fault == 0 && i < routines && i < spare.length; i++) {
                Code one = spare[i];
                for (int k = 0; one != null && k < one.count; k++) {
                    if (one.get(k, KIND) == CALL) {
                        one.set(k, Y, routineOf(one.get(k, Y)));
                    }
                }
            }
            return fault == 0;
        }
    }

    /** What lives, and what is reached, at each ITEM of a code. */
    private static final class Flow {
        final long[] live = new long[(MAX_ITEMS + 1) * WORDS];
        final long[] work = new long[WORDS];
        final int[] seen = new int[MAX_ITEMS + 1];
        final int[] waiting = new int[MAX_ITEMS + 1];
        int waits;

        boolean lives(int k, int r) {
            return has(live, k, r);
        }

        void findLiving(Code code) {
            clear(live, (code.count + 1) * WORDS);
            boolean changed = true;
            for (int round = 0; changed && round < ENDLESS; round++) {
                changed = false;
                for (int k = code.count - 1; k >= 0; k--) {
                    gatherBehind(code, k);
                    changed |= settleAhead(code, k);
                }
            }
        }

        private void gatherBehind(Code code, int k) {
            boolean on = code.fallsOn(k);
            int target = code.targetOf(k);
            for (int w = 0; w < WORDS; w++) {
                long bits = on ? bitsAt(live, (k + 1) * WORDS + w) : 0L;
                if (target >= 0) {
                    bits |= bitsAt(live, target * WORDS + w);
                }
                putBits(work, w, bits);
            }
        }

        private boolean settleAhead(Code code, int k) {
            exclude(work, 0, code.writtenBy(k));
            if (isAct(code.kindAt(k))) {
                for (int cell = A_KIND; cell < OPERANDS_END; cell += 2) {
                    if (code.get(k, cell) == REG) {
                        include(work, 0, code.get(k, cell + 1));
                    }
                }
            }
            boolean changed = false;
            for (int w = 0; w < WORDS; w++) {
                long bits = bitsAt(work, w);
                if (bits != bitsAt(live, k * WORDS + w)) {
                    putBits(live, k * WORDS + w, bits);
                    changed = true;
                }
            }
            return changed;
        }

        boolean isSeen(int k) {
            return at(seen, k) != 0;
        }

        /** Sees all ITEMS from one on, by ways that do not go on behind what writes a REGISTER (NONE: all). */
        void seeFrom(Code code, int from, int register) {
            Arrays.fill(seen, 0);
            waits = 0;
            see(code, from);
            for (int i = 0; waits > 0 && i < ENDLESS; i++) {
                waits--;
                int k = at(waiting, waits);
                if (register != NONE && code.writtenBy(k) == register) {
                    continue;
                }
                if (code.fallsOn(k)) {
                    see(code, k + 1);
                }
                see(code, code.targetOf(k));
            }
        }

        private void see(Code code, int k) {
            if (k >= 0 && k < code.count && !isSeen(k)) {
                put(seen, k, 1);
                put(waiting, waits, k);
                waits++;
            }
        }
    }

    /**
     * What is TOLD of each name ahead of each ITEM, as one number: 0 not reached, 1 to 4 GONE and why, 5 CONST 0,
     * 6 to 9 REG of a parameter, 10 and on the first BIND with that WHERE.
     */
    private static final class Told {
        static final int NOUGHT = 5;
        static final int PARAM_BASE = 6;
        static final int BIND_BASE = 10;

        final int[][] tables = new int[MAX_ROUTINES][];
        final int[] fresh = new int[MAX_ROUTINES];
        final int[] bindId = new int[MAX_ITEMS];
        final int[] state = new int[1 + MAX_FRAMES * MAX_NAMES];
        int[] table;
        int width;
        boolean changed;

        void spoil(int r) {
            put(fresh, r, 0);
        }

        /** Where the table has what is told of the first name of a FRAME ahead of an ITEM. */
        int slotAt(Code code, int k, int f) {
            return code == null ? NONE : k * code.slotOf(code.frames, 0) + code.slotOf(f, 0);
        }

        /** Of a code that was refreshed. */
        int idIn(int r, int slot) {
            int id = r >= 0 && r < tables.length ? at(tables[r], slot) : 0;
            return id == 0 ? NOT_THERE : id;
        }

        int whereOf(Code code, int id) {
            if (id < NOUGHT) {
                return GONE + id;
            }
            if (id < BIND_BASE) {
                return id == NOUGHT ? CONST : REG;
            }
            return code.get(id - BIND_BASE, WHERE);
        }

        /** A cell of the operands of what is told. */
        int part(Code code, int id, int cell) {
            if (id >= BIND_BASE) {
                return code.get(id - BIND_BASE, cell);
            }
            return id >= PARAM_BASE && cell == A ? code.homeOf(0, id - PARAM_BASE) : 0;
        }

        void refresh(int r, Code code) {
            if (code == null || r < 0 || r >= tables.length || r >= fresh.length || fresh[r] != 0) {
                return;
            }
            width = code.slotOf(code.frames, 0);
            int size = Math.max(0, (code.count + 1) * width);
            if (tables[r] == null || tables[r].length < size) {
                tables[r] = new int[size + size / 8];
            }
            table = tables[r];
            Arrays.fill(table, 0, size, 0);
            for (int k = 0; k < code.count; k++) {
                nameBind(code, k);
            }
            begin(code);
            changed = true;
            for (int round = 0; changed && round < ENDLESS; round++) {
                changed = false;
                for (int k = 0; k < code.count; k++) {
                    goThrough(code, k);
                }
            }
            fresh[r] = 1;
        }

        /** WHEREs that are the same get the same number, so that ways are compared by numbers alone. */
        private void nameBind(Code code, int k) {
            if (code.get(k, KIND) != BIND) {
                return;
            }
            int where = code.get(k, WHERE);
            if (where >= GONE) {
                put(bindId, k, where - GONE);
                return;
            }
            if (where == CONST && code.get(k, A) == 0) {
                put(bindId, k, NOUGHT);
                return;
            }
            for (int i = 0; where == REG && i < code.params; i++) {
                if (code.homeOf(0, i) == code.get(k, A)) {
                    put(bindId, k, PARAM_BASE + i);
                    return;
                }
            }
            int first = 0;
            while (first < k && !(code.get(first, KIND) == BIND && code.sameWhere(first, k))) {
                first++;
            }
            put(bindId, k, BIND_BASE + first);
        }

        private void begin(Code code) {
            for (int i = 0; i < width; i++) {
                put(table, i, NOT_THERE);
            }
            for (int name = 0; name < code.names; name++) {
                put(table, code.slotOf(0, name), name < code.params ? PARAM_BASE + name : NOUGHT);
            }
        }

        private void goThrough(Code code, int k) {
            if (at(table, k * width) == 0) {
                return;
            }
            int kind = code.get(k, KIND);
            int r = code.writtenBy(k);
            for (int i = 0; i < width; i++) {
                int id = at(table, k * width + i);
                put(state, i, r != NONE && leans(code, id, r) ? WRITTEN_OVER : id);
            }
            if (kind == BIND) {
                put(state, code.slotOf(code.get(k, Y), code.get(k, X)), at(bindId, k));
            }
            int left = code.get(k, X);
            for (int name = 0; kind == LEAVE && name < at(code.frameNames, left); name++) {
                put(state, code.slotOf(left, name), NOT_THERE);
            }
            if (code.fallsOn(k)) {
                comeTo(code, k + 1);
            }
            comeTo(code, code.targetOf(k));
        }

        private boolean leans(Code code, int id, int r) {
            if (id < PARAM_BASE) {
                return false;
            }
            return id < BIND_BASE ? code.homeOf(0, id - PARAM_BASE) == r : code.leansOn(id - BIND_BASE, r);
        }

        private void comeTo(Code code, int k) {
            if (k < 0 || k > code.count) {
                return;
            }
            for (int i = 0; i < width; i++) {
                int was = at(table, k * width + i);
                int is = at(state, i);
                if (was != is && was != DIFFERS) {
                    put(table, k * width + i, was == 0 ? is : DIFFERS);
                    changed = true;
                }
            }
        }
    }

    /** The passes that need no more than the ITEMS themselves: FOLD, MOVE, ALIKE. */
    private static final class Rewriter {
        final int[] knownKind = new int[MAX_REGISTERS];
        final int[] known = new int[MAX_REGISTERS];
        final long[] written = new long[WORDS];

        int fold(Code code) {
            int told = 0;
            int k = 0;
            int all = code.count;
            Arrays.fill(knownKind, 0);
            for (int i = 0; i < all; i++) {
                int kind = code.get(k, KIND);
                if (kind == LABEL) {
                    Arrays.fill(knownKind, 0);
                } else if (kind == BIND) {
                    foldBind(code, k);
                } else if (isAct(kind)) {
                    boolean changed = foldOperands(code, k);
                    changed |= foldAct(code, k);
                    told += changed ? 1 : 0;
                    learn(code, k);
                }
                if (goesOut(code, k)) {
                    code.removeRow(k);
                } else {
                    k++;
                }
            }
            return told;
        }

        private void foldBind(Code code, int k) {
            int r = code.get(k, A);
            if (code.get(k, WHERE) == REG && at(knownKind, r) == CONST) {
                code.setWhere(k, CONST, at(known, r));
            }
        }

        private boolean foldOperands(Code code, int k) {
            boolean changed = false;
            for (int cell = A_KIND; cell < OPERANDS_END; cell += 2) {
                int r = code.get(k, cell + 1);
                if (code.get(k, cell) == REG && at(knownKind, r) != 0) {
                    code.set(k, cell, at(knownKind, r));
                    code.set(k, cell + 1, at(known, r));
                    changed = true;
                }
            }
            return changed;
        }

        private boolean foldAct(Code code, int k) {
            int kind = code.get(k, KIND);
            if (code.get(k, A_KIND) != CONST) {
                return false;
            }
            if (isFive(kind) && code.get(k, B_KIND) == CONST) {
                code.becomeCopy(k, CONST, reckon(kind, code.get(k, A), code.get(k, B)));
                return true;
            }
            if (kind == ZERO && code.get(k, A) == 0) {
                code.set(k, KIND, JUMP);
                code.set(k, A_KIND, 0);
                return true;
            }
            return kind == ZERO;
        }

        private boolean goesOut(Code code, int k) {
            return code.get(k, KIND) == ZERO && code.get(k, A_KIND) == CONST;
        }

        private void learn(Code code, int k) {
            int r = code.writtenBy(k);
            if (r == NONE) {
                return;
            }
            put(knownKind, r, 0);
            for (int i = 0; i < knownKind.length; i++) {
                if (knownKind[i] == REG && at(known, i) == r) {
                    knownKind[i] = 0;
                }
            }
            int kind = code.get(k, A_KIND);
            int number = code.get(k, A);
            if (code.get(k, KIND) == COPY && !(kind == REG && number == r)) {
                put(knownKind, r, kind);
                put(known, r, number);
            }
        }

        int move(Code code) {
            int told = 0;
            for (int label = code.count - 1; label >= 0; label--) {
                if (code.get(label, KIND) == LABEL) {
                    told += emptyLoop(code, label);
                }
            }
            return told;
        }

        private int emptyLoop(Code code, int label) {
            int last = lastJumpTo(code, label);
            int top = label;
            for (int i = 0; i < MAX_ITEMS; i++) {
                int k = firstMovable(code, top, last);
                if (k == NONE) {
                    break;
                }
                code.liftRow(k, top);
                top++;
            }
            return top - label;
        }

        private int lastJumpTo(Code code, int label) {
            for (int k = code.count - 1; k > label; k--) {
                if (code.get(k, KIND) == JUMP && code.get(k, X) == code.get(label, X)) {
                    return k;
                }
            }
            return NONE;
        }

        private int firstMovable(Code code, int label, int last) {
            collectWritten(code, label, last);
            for (int k = label; k <= last; k++) {
                if (isPure(code.get(k, KIND)) && standsStill(code, k) && !code.isHome(code.get(k, X))
                    && isOnlyWriter(code, k)) {
                    return k;
                }
            }
            return NONE;
        }

        private void collectWritten(Code code, int from, int to) {
            clear(written, WORDS);
            for (int k = from; k <= to; k++) {
                include(written, 0, code.writtenBy(k));
            }
        }

        /** None of the REGISTERS that the ITEM reads is among those collected. */
        private boolean standsStill(Code code, int k) {
            return !(code.get(k, A_KIND) == REG && has(written, 0, code.get(k, A)))
                && !(code.get(k, B_KIND) == REG && has(written, 0, code.get(k, B)));
        }

        private boolean isOnlyWriter(Code code, int k) {
            int r = code.writtenBy(k);
            for (int i = 0; i < code.count; i++) {
                if (i != k && code.writtenBy(i) == r) {
                    return false;
                }
            }
            return true;
        }

        int alike(Code code) {
            int told = 0;
            for (int k = 0; k < code.count; k++) {
                int twin = isFive(code.get(k, KIND)) ? latestTwin(code, k) : NONE;
                if (twin != NONE) {
                    code.becomeCopy(k, REG, code.get(twin, X));
                    told++;
                }
            }
            return told;
        }

        private int latestTwin(Code code, int k) {
            clear(written, WORDS);
            for (int i = k - 1; i >= 0 && code.get(i, KIND) != LABEL; i--) {
                int r = code.writtenBy(i);
                boolean kept = !has(written, 0, r);
                include(written, 0, r);
                if (kept && code.get(i, KIND) == code.get(k, KIND) && code.sameOperands(i, k)
                    && standsStill(code, i)) {
                    return i;
                }
            }
            return NONE;
        }
    }

    /** DROP: what can't be reached, then what is read on no way. */
    private static final class Dropper {
        final Flow flow;

        Dropper(Flow flow) {
            this.flow = flow;
        }

        int drop(Code code) {
            int told = dropUnreached(code);
            code.link();
            for (int i = 0; i < MAX_ITEMS; i++) {
                flow.findLiving(code);
                int k = lastUnread(code);
                if (k == NONE) {
                    break;
                }
                loosenBinds(code, k);
                code.removeRow(k);
                code.link();
                told++;
            }
            return told;
        }

        private int dropUnreached(Code code) {
            flow.seeFrom(code, 0, NONE);
            int told = 0;
            for (int k = code.count - 1; k >= 0; k--) {
                if (!flow.isSeen(k)) {
                    told += isAct(code.get(k, KIND)) ? 1 : 0;
                    code.removeRow(k);
                }
            }
            return told;
        }

        private int lastUnread(Code code) {
            for (int k = code.count - 1; k >= 0; k--) {
                if (isPure(code.get(k, KIND)) && !flow.lives(k + 1, code.get(k, X))) {
                    return k;
                }
            }
            return NONE;
        }

        private void loosenBinds(Code code, int k) {
            int r = code.get(k, X);
            int near = k + 1;
            while (near < code.count && (code.get(near, KIND) == LINE || code.get(near, KIND) == BIND)) {
                near++;
            }
            flow.seeFrom(code, k + 1, r);
            for (int i = 0; i < code.count; i++) {
                if (flow.isSeen(i) && code.leansOn(i, r)) {
                    if (i > k && i < near && code.get(i, WHERE) == REG) {
                        takeOver(code, k, i);
                    } else {
                        code.setWhere(i, GONE + DROPPED, 0);
                    }
                }
            }
        }

        /** A BIND right behind tells what its REGISTER would have been. */
        private void takeOver(Code code, int k, int bind) {
            int kind = code.get(k, KIND);
            if (kind == COPY) {
                code.setWhere(bind, code.get(k, A_KIND), code.get(k, A));
                return;
            }
            code.set(bind, WHERE, SUM_BASE + kind);
            for (int cell = A_KIND; cell <= B; cell++) {
                code.set(bind, cell, code.get(k, cell));
            }
        }
    }

    /** MELT: the code of another routine comes in place of a CALL. */
    private static final class Melter {
        final Flow flow;
        final int[] arguments = new int[2 * MAX_PARAMS];
        Code host;
        Code guest;
        int registerBase;
        int labelBase;
        int frameBase;
        int lastLabel;
        int result;
        int row;

        Melter(Flow flow) {
            this.flow = flow;
        }

        /** What is melted in has no CALL, so that going on within it finds none. */
        int melt(Code[] codes, int routines, int r, Code code) {
            host = code;
            int told = 0;
            for (int k = 0; k < host.count; k++) {
                int other = host.get(k, KIND) == CALL ? host.get(k, Y) : NONE;
                if (other >= 0 && other < routines && other < codes.length && other != r && codes[other] != null) {
                    guest = codes[other];
                    if (isSmall() && meltAt(k)) {
                        told++;
                    }
                }
            }
            return told;
        }

        private boolean isSmall() {
            for (int k = 0; k < guest.count; k++) {
                if (guest.get(k, KIND) == CALL) {
                    return false;
                }
            }
            return guest.acts() <= MAX_MELT_ACTS;
        }

        private boolean meltAt(int k) {
            flow.findLiving(guest);
            registerBase = host.registers();
            labelBase = host.greatestLabel() + 1;
            frameBase = host.frames;
            lastLabel = labelBase + guest.greatestLabel() + 1;
            int more = rowsNeeded() - 1;
            if (host.count + more > MAX_ITEMS || frameBase + guest.frames > MAX_FRAMES
                || registerBase + guest.registers() > MAX_MELT_REGISTERS) {
                return false;
            }
            result = host.get(k, X);
            for (int i = 0; i < arguments.length; i++) {
                put(arguments, i, host.get(k, A_KIND + i));
            }
            addFrames(k);
            host.removeRow(k);
            host.openRows(k, more + 1);
            row = k;
            addEntry();
            addBody();
            return true;
        }

        private int rowsNeeded() {
            int rows = 3 + guest.count + guest.names + guest.params;
            for (int k = 0; k < guest.count; k++) {
                rows += guest.get(k, KIND) == RETURN ? 1 : 0;
            }
            for (int r = 0; r < MAX_REGISTERS; r++) {
                rows += needsNought(r) ? 1 : 0;
            }
            return rows;
        }

        private boolean needsNought(int r) {
            if (!has(flow.live, 0, r)) {
                return false;
            }
            for (int i = 0; i < guest.params; i++) {
                if (guest.homeOf(0, i) == r) {
                    return false;
                }
            }
            return true;
        }

        private void addFrames(int call) {
            int line = call;
            while (line >= 0 && host.get(line, KIND) != LINE) {
                line--;
            }
            for (int f = 0; f < guest.frames; f++) {
                int to = frameBase + f;
                put(host.frameRoutine, to, at(guest.frameRoutine, f));
                put(host.frameParent, to, f == 0 ? host.get(line, Y) : frameBase + at(guest.frameParent, f));
                put(host.frameLine, to, f == 0 ? host.get(line, X) : at(guest.frameLine, f));
                put(host.frameNames, to, at(guest.frameNames, f));
                for (int name = 0; name < at(guest.frameNames, f); name++) {
                    put(host.home, to * MAX_NAMES + name, registerBase + guest.homeOf(f, name));
                }
            }
            host.frames = frameBase + guest.frames;
        }

        private void addRow(int kind, int x, int y) {
            host.set(row, KIND, kind);
            host.set(row, X, x);
            host.set(row, Y, y);
            row++;
        }

        private void addCopy(int r, int kind, int number) {
            host.set(row, A_KIND, kind);
            host.set(row, A, number);
            addRow(COPY, r, 0);
        }

        private void addEntry() {
            addRow(ENTER, frameBase, 0);
            for (int name = 0; name < guest.names; name++) {
                int home = registerBase + guest.homeOf(0, name);
                boolean given = name < guest.params;
                if (given) {
                    addCopy(home, at(arguments, 2 * name), at(arguments, 2 * name + 1));
                }
                host.setWhere(row, given ? REG : CONST, given ? home : 0);
                addRow(BIND, name, frameBase);
            }
            for (int r = 0; r < MAX_REGISTERS; r++) {
                if (needsNought(r)) {
                    addCopy(registerBase + r, CONST, 0);
                }
            }
        }

        private void addBody() {
            for (int k = 0; k < guest.count; k++) {
                if (guest.get(k, KIND) == RETURN) {
                    int kind = guest.get(k, A_KIND);
                    addCopy(result, kind, guest.get(k, A) + (kind == REG ? registerBase : 0));
                    addRow(JUMP, lastLabel, 0);
                } else {
                    addItem(k);
                }
            }
            addRow(LABEL, lastLabel, 0);
            addRow(LEAVE, frameBase, 0);
        }

        private void addItem(int k) {
            int kind = guest.get(k, KIND);
            int where = guest.get(k, WHERE);
            for (int cell = A_KIND; cell < OPERANDS_END; cell += 2) {
                boolean register = guest.get(k, cell) == REG || cell == A_KIND && kind == BIND && where == REG;
                host.set(row, cell, guest.get(k, cell));
                host.set(row, cell + 1, guest.get(k, cell + 1) + (register ? registerBase : 0));
            }
            host.set(row, WHERE, where);
            boolean framed = kind == LINE || kind == BIND;
            addRow(kind, guest.get(k, X) + shiftOf(kind), guest.get(k, Y) + (framed ? frameBase : 0));
        }

        /** By how much the first number of an ITEM is numbered on. */
        private int shiftOf(int kind) {
            if (isPure(kind)) {
                return registerBase;
            }
            if (kind == JUMP || kind == ZERO || kind == LABEL) {
                return labelBase;
            }
            return kind == ENTER || kind == LEAVE ? frameBase : 0;
        }
    }

    /** SHARE: REGISTERS that are never at odds get one number. */
    private static final class Sharer {
        final Flow flow;
        final long[] odds = new long[MAX_REGISTERS * WORDS];
        final long[] first = new long[WORDS];
        final int[] number = new int[MAX_REGISTERS];
        /** Of each new number the REGISTERS that got it. */
        final long[] group = new long[MAX_REGISTERS * WORDS];
        /** At each ITEM the REGISTERS that were written last to their new number. */
        final long[] latest = new long[(MAX_ITEMS + 1) * WORDS];
        final int[] reached = new int[MAX_ITEMS + 1];
        final long[] work = new long[WORDS];
        boolean changed;

        Sharer(Flow flow) {
            this.flow = flow;
        }

        int share(Code code) {
            flow.findLiving(code);
            int n = Math.min(code.registers(), MAX_REGISTERS);
            findFirst(code);
            findOdds(code, n);
            numberAnew(n);
            findLatest(code);
            for (int k = 0; k < code.count; k++) {
                if (at(reached, k) != 0 && leansOnLost(code, k, n)) {
                    code.setWhere(k, GONE + WRITTEN_OVER, 0);
                }
            }
            renumber(code);
            return code.registers();
        }

        /** What has its value at the beginning: parameters, and what lives there. */
        private void findFirst(Code code) {
            System.arraycopy(flow.live, 0, first, 0, WORDS);
            for (int i = 0; i < code.params; i++) {
                include(first, 0, code.homeOf(0, i));
            }
        }

        private void findOdds(Code code, int n) {
            clear(odds, n * WORDS);
            for (int r = 0; r < n; r++) {
                if (has(first, 0, r)) {
                    addOdds(first, 0, r, n);
                }
            }
            for (int k = 0; k < code.count; k++) {
                int r = code.writtenBy(k);
                if (r != NONE) {
                    addOdds(flow.live, k + 1, r, n);
                }
            }
        }

        private void addOdds(long[] sets, int k, int r, int n) {
            for (int q = 0; q < n; q++) {
                if (q != r && has(sets, k, q)) {
                    include(odds, r, q);
                    include(odds, q, r);
                }
            }
        }

        private void numberAnew(int n) {
            clear(group, n * WORDS);
            for (int r = 0; r < n; r++) {
                int least = 0;
                while (least < r && meets(least, r)) {
                    least++;
                }
                put(number, r, least);
                include(group, least, r);
            }
        }

        private boolean meets(int least, int r) {
            for (int w = 0; w < WORDS; w++) {
                if ((bitsAt(group, least * WORDS + w) & bitsAt(odds, r * WORDS + w)) != 0) {
                    return true;
                }
            }
            return false;
        }

        private void findLatest(Code code) {
            Arrays.fill(reached, 0);
            System.arraycopy(first, 0, latest, 0, WORDS);
            put(reached, 0, 1);
            changed = true;
            for (int round = 0; changed && round < ENDLESS; round++) {
                changed = false;
                for (int k = 0; k < code.count; k++) {
                    if (at(reached, k) != 0) {
                        goThrough(code, k);
                    }
                }
            }
        }

        private void goThrough(Code code, int k) {
            int r = code.writtenBy(k);
            for (int w = 0; w < WORDS; w++) {
                long lost = r == NONE ? 0L : bitsAt(group, at(number, r) * WORDS + w);
                putBits(work, w, bitsAt(latest, k * WORDS + w) & ~lost);
            }
            include(work, 0, r);
            if (code.fallsOn(k)) {
                comeTo(code, k + 1);
            }
            comeTo(code, code.targetOf(k));
        }

        private void comeTo(Code code, int k) {
            if (k < 0 || k > code.count) {
                return;
            }
            boolean anew = at(reached, k) == 0;
            for (int w = 0; w < WORDS; w++) {
                long was = bitsAt(latest, k * WORDS + w);
                long is = anew ? bitsAt(work, w) : was & bitsAt(work, w);
                changed |= anew || is != was;
                putBits(latest, k * WORDS + w, is);
            }
            put(reached, k, 1);
        }

        private boolean leansOnLost(Code code, int k, int n) {
            if (code.get(k, KIND) != BIND || code.get(k, WHERE) >= GONE) {
                return false;
            }
            for (int r = 0; r < n; r++) {
                if (code.leansOn(k, r) && !has(latest, k, r)) {
                    return true;
                }
            }
            return false;
        }

        private void renumber(Code code) {
            for (int i = 0; i < code.frames * MAX_NAMES; i++) {
                put(code.home, i, at(number, at(code.home, i)));
            }
            for (int k = 0; k < code.count; k++) {
                int r = code.writtenBy(k);
                if (r != NONE) {
                    code.set(k, X, at(number, r));
                }
                if (code.get(k, KIND) == BIND && code.get(k, WHERE) == REG) {
                    code.set(k, A, at(number, code.get(k, A)));
                }
                for (int cell = A_KIND; cell < OPERANDS_END; cell += 2) {
                    if (code.get(k, cell) == REG) {
                        code.set(k, cell + 1, at(number, code.get(k, cell + 1)));
                    }
                }
            }
        }
    }

    /** A run by codes: the calls that stand in one another, each with its REGISTERS, ITEM and FRAMES. */
    private static final class Run {
        static final int NO_RUN = 0;
        static final int GOING = 1;
        static final int OVER = 2;
        static final int FAILED = 3;

        final Code[] codes;
        int state;
        int top;
        int depth;
        final int[] routineAt = new int[MAX_CALLS + 1];
        final int[] placeAt = new int[MAX_CALLS + 1];
        final int[] frameAt = new int[MAX_CALLS + 1];
        final int[] lines = new int[(MAX_CALLS + 1) * MAX_FRAMES];
        final int[] registers = new int[(MAX_CALLS + 1) * MAX_REGISTERS];
        final int[] out = new int[MAX_PRINTED];
        int prints;
        int lastPrint;
        int gone;
        int returned;
        private Code code;
        private int foundCall;
        private int foundFrame;

        Run(Code[] codes) {
            this.codes = codes;
        }

        void forget() {
            state = NO_RUN;
        }

        void begin(int r, int a, int b, int c, int d) {
            state = GOING;
            depth = 0;
            prints = 0;
            lastPrint = 0;
            gone = 0;
            returned = 0;
            openCall(0, r);
            put(registers, homeOfParam(0), a);
            put(registers, homeOfParam(1), b);
            put(registers, homeOfParam(2), c);
            put(registers, homeOfParam(3), d);
        }

        private Code codeAt(int r) {
            return r >= 0 && r < codes.length ? codes[r] : null;
        }

        private void openCall(int call, int r) {
            top = call;
            depth++;
            code = codeAt(r);
            put(routineAt, call, r);
            put(placeAt, call, 0);
            put(frameAt, call, 0);
            put(lines, call * MAX_FRAMES, 0);
            int from = call * MAX_REGISTERS;
            if (from >= 0 && from + MAX_REGISTERS <= registers.length) {
                Arrays.fill(registers, from, from + MAX_REGISTERS, 0);
            }
        }

        private int homeOfParam(int i) {
            return code != null && i < code.params ? top * MAX_REGISTERS + code.homeOf(0, i) : NONE;
        }

        int place() {
            return at(placeAt, top);
        }

        int advance(int how, int n) {
            int now = depth;
            for (int i = 0; i < n && state == GOING; i++) {
                boolean line = step();
                if (state == GOING && line && stops(how, now)) {
                    return 1;
                }
            }
            if (state == GOING) {
                return 2;
            }
            return state == OVER ? 0 : 3;
        }

        private boolean stops(int how, int now) {
            if (how == 0) {
                return true;
            }
            return how == 1 ? depth <= now : depth < now;
        }

        /** One ITEM is gone (or the run FAILS ahead of it): whether it was a LINE. */
        boolean step() {
            int k = place();
            int kind = code == null ? NONE : code.kindAt(k);
            if ((kind == CALL || kind == ENTER) && depth > MAX_CALLS) {
                state = FAILED;
                return false;
            }
            gone++;
            int next = k + 1;
            switch (kind) {
                case OUT:
                    emit(operand(k, A_KIND));
                    break;
                case JUMP:
                    next = code.get(k, TARGET);
                    break;
                case ZERO:
                    next = operand(k, A_KIND) == 0 ? code.get(k, TARGET) : next;
                    break;
                case CALL:
                    callFrom(k);
                    return false;
                case RETURN:
                    giveBack(operand(k, A_KIND));
                    return false;
                case LINE:
                    put(lines, top * MAX_FRAMES + code.get(k, Y), code.get(k, X));
                    break;
                case ENTER:
                    depth++;
                    put(frameAt, top, code.get(k, X));
                    put(lines, top * MAX_FRAMES + code.get(k, X), 0);
                    break;
                case LEAVE:
                    depth--;
                    put(frameAt, top, at(code.frameParent, code.get(k, X)));
                    break;
                case NONE:
                    giveBack(0);
                    return false;
                default:
                    reckonAt(k, kind);
                    break;
            }
            put(placeAt, top, next);
            return kind == LINE;
        }

        private void reckonAt(int k, int kind) {
            if (isPure(kind)) {
                int b = kind == COPY ? 0 : operand(k, B_KIND);
                put(registers, top * MAX_REGISTERS + code.get(k, X), reckon(kind, operand(k, A_KIND), b));
            }
        }

        private int operand(int k, int cell) {
            int number = code.get(k, cell + 1);
            return code.get(k, cell) == REG ? at(registers, top * MAX_REGISTERS + number) : number;
        }

        private void emit(int number) {
            put(out, prints, number);
            lastPrint = number;
            prints++;
        }

        private void callFrom(int k) {
            int a = operand(k, A_KIND);
            int b = operand(k, A_KIND + 2);
            int c = operand(k, A_KIND + 4);
            int d = operand(k, A_KIND + 6);
            openCall(top + 1, code.get(k, Y));
            put(registers, homeOfParam(0), a);
            put(registers, homeOfParam(1), b);
            put(registers, homeOfParam(2), c);
            put(registers, homeOfParam(3), d);
        }

        private void giveBack(int number) {
            depth -= chainOf(top);
            if (top == 0) {
                state = OVER;
                returned = number;
                depth = 0;
                return;
            }
            top--;
            code = codeAt(at(routineAt, top));
            if (code != null) {
                put(registers, top * MAX_REGISTERS + code.get(place(), X), number);
            }
            put(placeAt, top, place() + 1);
        }

        /** How many frames of the STACK one call has. */
        private int chainOf(int call) {
            Code its = codeAt(at(routineAt, call));
            int f = at(frameAt, call);
            int n = 1;
            while (its != null && f > 0 && n <= MAX_FRAMES) {
                f = at(its.frameParent, f);
                n++;
            }
            return n;
        }

        /** Finds frame k of the STACK. */
        boolean find(int k) {
            if (k < 0 || k >= depth || state != GOING && state != FAILED) {
                return false;
            }
            int left = k;
            for (int call = top; call >= 0; call--) {
                int n = chainOf(call);
                if (left < n) {
                    foundCall = call;
                    foundFrame = at(frameAt, call);
                    climb(left);
                    return foundCode() != null;
                }
                left -= n;
            }
            return false;
        }

        private void climb(int steps) {
            Code its = foundCode();
            for (int i = 0; i < steps && its != null; i++) {
                foundFrame = at(its.frameParent, foundFrame);
            }
        }

        /** Whose code the call of the found frame goes by. */
        int foundSource() {
            return at(routineAt, foundCall);
        }

        Code foundCode() {
            return codeAt(at(routineAt, foundCall));
        }

        int foundRoutine() {
            Code its = foundCode();
            return its == null ? NONE : at(its.frameRoutine, foundFrame);
        }

        int foundLine() {
            return at(lines, foundCall * MAX_FRAMES + foundFrame);
        }

        int foundNames() {
            Code its = foundCode();
            return its == null ? 0 : at(its.frameNames, foundFrame);
        }

        /** Where it is told of the first name of the found frame, as its call stands. */
        int foundSlot(Told tellings) {
            return tellings.slotAt(foundCode(), at(placeAt, foundCall), foundFrame);
        }

        int foundId(Told tellings, int name) {
            return tellings.idIn(foundSource(), foundSlot(tellings) + name);
        }

        int foundValue(Told tellings, int id) {
            Code its = foundCode();
            int where = its == null ? GONE : tellings.whereOf(its, id);
            if (where >= GONE) {
                return 0;
            }
            int a = tellings.part(its, id, A);
            if (where == CONST) {
                return a;
            }
            if (where == REG) {
                return foundRegister(a);
            }
            int b = tellings.part(its, id, B);
            a = tellings.part(its, id, A_KIND) == REG ? foundRegister(a) : a;
            b = tellings.part(its, id, B_KIND) == REG ? foundRegister(b) : b;
            return reckon(where - SUM_BASE, a, b);
        }

        int foundRegister(int r) {
            return at(registers, foundCall * MAX_REGISTERS + r);
        }
    }

    /** A run by the torn code, and the plain run beside it; made code does as the text does, name by REGISTER. */
    private static final class Beside {
        final Run torn;
        final Run plain;
        int knownNames;
        int goneNames;
        int ending;

        Beside(Code[] codes, Code[] made) {
            torn = new Run(codes);
            plain = new Run(made);
        }

        int together(Told tellings, int n) {
            int alike = 0;
            knownNames = 0;
            goneNames = 0;
            ending = 0;
            for (int i = 0; i < n && torn.state == Run.GOING; i++) {
                if (torn.step()) {
                    if (!plainLine() || !samePrints() || !sameStack(tellings)) {
                        return -2 - alike;
                    }
                    alike++;
                }
            }
            if (torn.state == Run.GOING) {
                return alike;
            }
            if (plainLine() || plain.state != torn.state || !samePrints() || plain.returned != torn.returned) {
                return -2 - alike;
            }
            ending = torn.state == Run.OVER ? 1 : 2;
            return alike;
        }

        /** The plain run goes on up to its next LINE: whether there is one. */
        private boolean plainLine() {
            for (int i = 0; i < ENDLESS && plain.state == Run.GOING; i++) {
                if (plain.step()) {
                    return true;
                }
            }
            return false;
        }

        /** Between two LINES at most one number is printed, so that the last one tells for all. */
        private boolean samePrints() {
            return torn.prints == plain.prints && torn.lastPrint == plain.lastPrint;
        }

        /** Names are counted in all frames, also where something differs. */
        private boolean sameStack(Told tellings) {
            boolean same = torn.depth == plain.depth;
            for (int k = 0; k < torn.depth; k++) {
                same &= torn.find(k) && plain.find(k) && torn.foundRoutine() == plain.foundRoutine()
                    && torn.foundLine() == plain.foundLine();
                same &= sameNames(tellings);
            }
            return same;
        }

        private boolean sameNames(Told tellings) {
            boolean same = true;
            Code code = torn.foundCode();
            int source = torn.foundSource();
            int slot = torn.foundSlot(tellings);
            int names = torn.foundNames();
            for (int name = 0; name < names; name++) {
                int id = tellings.idIn(source, slot + name);
                if (code == null || tellings.whereOf(code, id) >= GONE) {
                    goneNames++;
                } else {
                    knownNames++;
                    same &= torn.foundValue(tellings, id) == plain.foundRegister(name);
                }
            }
            return same;
        }
    }
}
