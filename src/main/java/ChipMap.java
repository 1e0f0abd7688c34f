import java.util.Arrays;

/**
 * Descriptions of a chip's registers become a device, a driver for its fields, and a checker of
 * scripts. The numbered promises of the document say what each method answers.
 */
public final class ChipMap {
    /** The answer where there is none. */
    public static final int NONE = -1;

    private static final int REFUSED = -2;
    private static final int TOO_MANY = -2;

    private static final int MOST_CHARACTERS = 480;
    private static final int MOST_REGISTERS = 16;
    private static final int MOST_FIELDS_OF_ONE = 8;
    private static final int MOST_FIELD_ROWS = MOST_REGISTERS * MOST_FIELDS_OF_ONE;
    private static final int MOST_RULES = 12;
    private static final int NAMES = 26;
    private static final int WORD_BITS = 16;
    private static final int WORD = 0xFFFF;
    private static final int MOST_JOINED = 8;
    private static final int MOST_STEPS = 40;
    private static final int MOST_STEPS_DONE = 300;
    private static final int MOST_SITUATIONS = 1000;
    private static final int MOST_LOGGED = 64;

    private static final String ACCESSES = "wroctsp";
    private static final int W = 0;
    private static final int R = 1;
    private static final int O = 2;
    private static final int C = 3;
    private static final int T = 4;
    private static final int S = 5;
    private static final int P = 6;

    private static final int PUT = 0;
    private static final int FETCH = 1;
    private static final int GO = 2;
    private static final int END = 3;

    private final Draft draft = new Draft();
    private final Reader reader = new Reader(draft);
    private final Judge judge = new Judge(draft);
    private final Layout layout = new Layout();
    private final Device device = new Device(layout);
    private final Plan plan = new Plan(layout);
    private final Steps joined = new Steps(MOST_JOINED);
    private final Steps script = new Steps(MOST_STEPS);
    private final Checker checker = new Checker(layout, script, plan);

    /** Promise 1. */
    public ChipMap() {
    }

    /** Promise 2. */
    public boolean type(long word, int n) {
        return reader.append(word, n);
    }

    /** Promise 3. */
    public int compile() throws IllegalArgumentException {
        boolean wellFormed = reader.readAll();
        judge.decide(wellFormed, reader.at);
        if (judge.kind != 0) {
            throw new IllegalArgumentException();
        }
        layout.follow(draft);
        script.count = 0;
        startAgain();
        return layout.registers;
    }

    /** Promise 4. */
    public int fault(int what) {
        switch (what) {
            case 0:
                return judge.kind;
            case 1:
                return judge.place;
            default:
                return NONE;
        }
    }

    /** Promise 5. */
    public int field(int f, int what) {
        if (!layout.has(f)) {
            return NONE;
        }
        switch (what) {
            case 0:
                return layout.home[f];
            case 1:
                return layout.low[f];
            case 2:
                return layout.width[f];
            case 3:
                return device.valueOf(f);
            case 4:
                return layout.bitsOf(f, device.kept[layout.home[f]]);
            default:
                return NONE;
        }
    }

    /** Promise 6. */
    public boolean reset() {
        if (!hasMap()) {
            return false;
        }
        startAgain();
        return true;
    }

    /** Promise 7. */
    public int busWrite(int offset, int v) {
        int r = device.registerAt(offset);
        if (r == NONE) {
            return NONE;
        }
        int broken = device.mind.brokenBy(r, v & WORD);
        device.write(r, v & WORD);
        device.rulesBroken += Integer.bitCount(broken);
        return broken == 0 ? 0 : 1 + Integer.numberOfTrailingZeros(broken);
    }

    /** Promise 8. */
    public int busRead(int offset) {
        int r = device.registerAt(offset);
        return r == NONE ? NONE : device.read(r);
    }

    /** Promise 9. */
    public boolean poke(int f, int v) {
        if (!layout.has(f) || !layout.fits(f, v)) {
            return false;
        }
        int access = layout.access[f];
        if (access != R && access != C && access != T) {
            return false;
        }
        device.setLoose(f, v);
        return true;
    }

    /** Promise 10. */
    public int put(int f, int v) {
        if (!layout.canPut(f, v) || joined.count > 0) {
            return NONE;
        }
        plan.begin(device.mind);
        plan.addPut(f, v);
        return doWrites();
    }

    /** Promise 11. */
    public int fetch(int f) throws IndexOutOfBoundsException, IllegalStateException {
        if (!layout.canFetch(f)) {
            throw new IndexOutOfBoundsException();
        }
        if (joined.count > 0 || !reachForFetch(f)) {
            throw new IllegalStateException();
        }
        return readOut(f);
    }

    /** Promise 12. */
    public int join(int f, int v) {
        if (!layout.canPut(f, v) || joined.isFull()) {
            return NONE;
        }
        joined.append(PUT, f, v);
        return joined.count;
    }

    /** Promise 13. */
    public int flush() {
        plan.begin(device.mind);
        plan.addJoined(joined);
        int operations = doWrites();
        if (operations != REFUSED) {
            joined.count = 0;
        }
        return operations;
    }

    /** Promise 14. */
    public int drop() {
        return joined.empty();
    }

    /** Promise 15. */
    public int trace(int k, int what) {
        Log log = device.log;
        int row = log.rowOf(k);
        if (row == NONE) {
            return NONE;
        }
        switch (what) {
            case 0:
                return log.write[row];
            case 1:
                return log.offset[row];
            case 2:
                return log.word[row];
            default:
                return NONE;
        }
    }

    /** Promise 16. */
    public int step(int kind, int f, int v) {
        if (script.isFull() || !hasMap() || !isStep(kind, f, v)) {
            return NONE;
        }
        script.append(kind, f, v);
        return script.count - 1;
    }

    /** Promise 17. */
    public int erase() {
        return script.empty();
    }

    /** Promise 18. */
    public int check() {
        if (!hasMap()) {
            return NONE;
        }
        checker.begin();
        for (int i = 0; i < MOST_SITUATIONS; i++) {
            if (i >= checker.count || checker.tooMany) {
                break;
            }
            checker.visit(i);
        }
        return checker.tooMany ? TOO_MANY : 1 + checker.stepTold;
    }

    /** Promise 19. */
    public int found(int what) {
        switch (what) {
            case 0:
                return checker.count;
            case 1:
                return checker.tooMany ? 0 : checker.ruleTold;
            default:
                return NONE;
        }
    }

    /** Promise 20. */
    public int run(int choices) {
        if (!hasMap() || joined.count > 0) {
            return NONE;
        }
        int at = 0;
        int gos = 0;
        for (int done = 0; done < MOST_STEPS_DONE; done++) {
            if (at >= script.count || script.kind[at] == END) {
                return 0;
            }
            if (script.kind[at] == GO) {
                boolean goes = ((choices >>> (gos & 31)) & 1) == 1;
                gos++;
                at = goes ? script.v[at] : at + 1;
            } else if (doStep(at)) {
                at++;
            } else {
                return at + 1;
            }
        }
        // A script whose 300th STEP was its last one has ended all the same.
        return at >= script.count ? 0 : TOO_MANY;
    }

    /** Promise 21. */
    public int state(int what) {
        switch (what) {
            case 0:
                return device.log.count;
            case 1:
                return device.rulesBroken;
            case 2:
                return joined.count;
            case 3:
                return script.count;
            case 4:
                return layout.rules.count;
            default:
                return NONE;
        }
    }

    private boolean hasMap() {
        return layout.registers > 0;
    }

    private void startAgain() {
        device.restart();
        joined.count = 0;
    }

    private boolean isStep(int kind, int f, int v) {
        switch (kind) {
            case PUT:
                return layout.canPut(f, v);
            case FETCH:
                return layout.canFetch(f);
            case GO:
                return v >= 0 && v <= MOST_STEPS;
            default:
                return kind == END;
        }
    }

    /** Does a PUT or FETCH of the script; false, with nothing done, if it is refused. */
    private boolean doStep(int at) {
        int f = script.f[at];
        if (script.kind[at] == FETCH) {
            if (!reachForFetch(f)) {
                return false;
            }
            readOut(f);
            return true;
        }
        plan.begin(device.mind);
        plan.addPut(f, script.v[at]);
        return doWrites() != REFUSED;
    }

    private boolean reachForFetch(int f) {
        plan.begin(device.mind);
        plan.addFetch(f);
        return doWrites() != REFUSED;
    }

    /** The WRITES of the plan, all of them or none. */
    private int doWrites() {
        if (plan.broken != 0) {
            return REFUSED;
        }
        for (int i = 0; i < plan.writes; i++) {
            device.write(plan.register[i], plan.word[i]);
        }
        return plan.writes;
    }

    /** The value of a field whose register has been reached. */
    private int readOut(int f) {
        int access = layout.access[f];
        if (access == W) {
            return device.valueOf(f);
        }
        int r = layout.home[f];
        int word = device.read(r);
        // A READ keeps all that it clears, so what is kept of a c holds what was just read of it.
        return access == C ? device.takeKept(f) : layout.bitsOf(f, word);
    }

    /** The rules of a map, row by row, with the places of their names on the tape. */
    private static final class Rules {
        private static final int BEFORE = 0;
        private static final int ONLY_AT = 1;
        private static final int BETWEEN = 2;
        private static final String SIGNS = "<&!";

        int count;
        final int[] kind = new int[MOST_RULES];
        final int[] a = new int[MOST_RULES];
        final int[] b = new int[MOST_RULES];
        final int[] value = new int[MOST_RULES];
        final int[] placeOfA = new int[MOST_RULES];
        final int[] placeOfB = new int[MOST_RULES];

        void copy(Rules other) {
            count = other.count;
            System.arraycopy(other.kind, 0, kind, 0, MOST_RULES);
            System.arraycopy(other.a, 0, a, 0, MOST_RULES);
            System.arraycopy(other.b, 0, b, 0, MOST_RULES);
            System.arraycopy(other.value, 0, value, 0, MOST_RULES);
        }
    }

    /** What stands on a tape, as it stands there, with places: it may have faults of kinds 2 to 4. */
    private static final class Draft {
        int registers;
        final int[] registerPlace = new int[MOST_REGISTERS];
        final int[] offset = new int[MOST_REGISTERS];
        final int[] bank = new int[MOST_REGISTERS];
        final int[] bankPlace = new int[MOST_REGISTERS];
        final int[] digit = new int[MOST_REGISTERS];

        int fields;
        final int[] name = new int[MOST_FIELD_ROWS];
        final int[] place = new int[MOST_FIELD_ROWS];
        final int[] home = new int[MOST_FIELD_ROWS];
        final int[] access = new int[MOST_FIELD_ROWS];
        final int[] high = new int[MOST_FIELD_ROWS];
        final int[] low = new int[MOST_FIELD_ROWS];
        final int[] value = new int[MOST_FIELD_ROWS];

        final Rules rules = new Rules();

        void clear() {
            registers = 0;
            fields = 0;
            rules.count = 0;
        }

        /** The first row of this name, or NONE. */
        int rowOf(int wanted) {
            for (int i = 0; i < fields; i++) {
                if (name[i] == wanted) {
                    return i;
                }
            }
            return NONE;
        }

        boolean fits(int row, int v) {
            return v >> (high[row] - low[row] + 1) == 0;
        }
    }

    /** The tape, and how it is read: at stands at the first character that can't stand there. */
    private static final class Reader {
        private final Draft draft;
        private final char[] tape = new char[MOST_CHARACTERS];
        private int length;
        int at;

        Reader(Draft draft) {
            this.draft = draft;
        }

        boolean append(long word, int n) {
            if (n < 1 || n > 8 || length + n > MOST_CHARACTERS) {
                return false;
            }
            for (int i = 0; i < n; i++) {
                int c = byteOf(word, i);
                if (c < 33 || c > 126) {
                    return false;
                }
            }
            for (int i = n - 1; i >= 0; i--) {
                tape[length] = (char) byteOf(word, i);
                length++;
            }
            return true;
        }

        private static int byteOf(long word, int i) {
            return (int) (word >>> (8 * i)) & 255;
        }

        /** Reads the tape into the draft and empties it; false for a fault of kind 1. */
        boolean readAll() {
            draft.clear();
            at = 0;
            boolean wellFormed = readRegisters() && readRules() && at == length;
            length = 0;
            return wellFormed;
        }

        private boolean readRegisters() {
            for (int r = 0; r < MOST_REGISTERS; r++) {
                if (r > 0 && next() != '@') {
                    break;
                }
                if (!readRegister(r)) {
                    return false;
                }
                draft.registers = r + 1;
            }
            return true;
        }

        private boolean readRules() {
            for (int k = 0; k < MOST_RULES; k++) {
                if (at >= length) {
                    break;
                }
                if (!readRule(k)) {
                    return false;
                }
                draft.rules.count = k + 1;
            }
            return true;
        }

        private boolean readRegister(int r) {
            draft.registerPlace[r] = at;
            if (!take('@')) {
                return false;
            }
            draft.offset[r] = number(16, 2, 2);
            if (draft.offset[r] == NONE || !readBank(r) || !take('{')) {
                return false;
            }
            for (int k = 0; k < MOST_FIELDS_OF_ONE; k++) {
                if (k > 0 && next() == '}') {
                    break;
                }
                if (!readField(r)) {
                    return false;
                }
            }
            return take('}');
        }

        private boolean readBank(int r) {
            draft.bank[r] = NONE;
            if (next() != '?') {
                return true;
            }
            at++;
            draft.bankPlace[r] = at;
            draft.bank[r] = name();
            if (draft.bank[r] == NONE || !take('=')) {
                return false;
            }
            draft.digit[r] = number(16, 1, 1);
            return draft.digit[r] != NONE;
        }

        private boolean readField(int r) {
            int row = draft.fields;
            draft.home[row] = r;
            draft.place[row] = at;
            draft.name[row] = name();
            if (draft.name[row] == NONE) {
                return false;
            }
            draft.access[row] = oneOf(ACCESSES);
            if (draft.access[row] == NONE) {
                return false;
            }
            draft.high[row] = number(10, 1, 2);
            if (draft.high[row] == NONE || !take(':')) {
                return false;
            }
            draft.low[row] = number(10, 1, 2);
            if (draft.low[row] == NONE) {
                return false;
            }
            draft.value[row] = next() == '=' ? numberBehindSign() : 0;
            draft.fields = row + 1;
            return draft.value[row] != NONE && take(';');
        }

        private boolean readRule(int k) {
            Rules rules = draft.rules;
            rules.placeOfA[k] = at;
            rules.a[k] = name();
            if (rules.a[k] == NONE) {
                return false;
            }
            rules.kind[k] = oneOf(Rules.SIGNS);
            if (rules.kind[k] == NONE) {
                return false;
            }
            rules.placeOfB[k] = at;
            rules.b[k] = name();
            if (rules.b[k] == NONE) {
                return false;
            }
            rules.value[k] = rules.kind[k] == Rules.ONLY_AT ? numberBehindSign() : 0;
            return rules.value[k] != NONE && take(';');
        }

        private int numberBehindSign() {
            return take('=') ? number(16, 1, 4) : NONE;
        }

        /** The next character; behind the last one a 0, which is never on a tape. */
        private char next() {
            return at < length ? tape[at] : 0;
        }

        private boolean take(char wanted) {
            if (next() != wanted) {
                return false;
            }
            at++;
            return true;
        }

        private int name() {
            char c = next();
            if (c < 'A' || c > 'Z') {
                return NONE;
            }
            at++;
            return c - 'A';
        }

        private int oneOf(String signs) {
            int found = signs.indexOf(next());
            if (found >= 0) {
                at++;
            }
            return found >= 0 ? found : NONE;
        }

        private int number(int base, int least, int most) {
            int value = 0;
            int digits = 0;
            for (int i = 0; i < most; i++) {
                int d = digitOf(next());
                if (d == NONE || d >= base) {
                    break;
                }
                value = value * base + d;
                digits++;
                at++;
            }
            return digits < least ? NONE : value;
        }

        private static int digitOf(char c) {
            if (c >= '0' && c <= '9') {
                return c - '0';
            }
            return c >= 'a' && c <= 'f' ? c - 'a' + 10 : NONE;
        }
    }

    /** Which fault the latest draft has, and where; kind 0 and place 0 without one. */
    private static final class Judge {
        private final Draft draft;
        int kind;
        int place;

        Judge(Draft draft) {
            this.draft = draft;
        }

        void decide(boolean wellFormed, int readTo) {
            if (!wellFormed) {
                kind = 1;
                place = readTo;
                return;
            }
            kind = 2;
            place = badField();
            if (place == NONE) {
                kind = 3;
                place = badBank();
            }
            if (place == NONE) {
                place = badOffset();
            }
            if (place == NONE) {
                kind = 4;
                place = badRule();
            }
            if (place == NONE) {
                kind = 0;
                place = 0;
            }
        }

        private int badField() {
            int taken = 0;
            for (int i = 0; i < draft.fields; i++) {
                if (i == 0 || draft.home[i] != draft.home[i - 1]) {
                    taken = 0;
                }
                int high = draft.high[i];
                int low = draft.low[i];
                if (draft.rowOf(draft.name[i]) < i || high >= WORD_BITS || high < low
                        || !draft.fits(i, draft.value[i])) {
                    return draft.place[i];
                }
                int bits = ((1 << (high - low + 1)) - 1) << low;
                if ((taken & bits) != 0) {
                    return draft.place[i];
                }
                taken |= bits;
            }
            return NONE;
        }

        private int badBank() {
            for (int r = 0; r < draft.registers; r++) {
                if (draft.bank[r] != NONE && !canBeBank(draft.rowOf(draft.bank[r]), draft.digit[r])) {
                    return draft.bankPlace[r];
                }
            }
            return NONE;
        }

        private boolean canBeBank(int row, int digit) {
            return row != NONE && draft.access[row] == W && draft.bank[draft.home[row]] == NONE
                    && draft.fits(row, digit);
        }

        private int badOffset() {
            for (int r = 1; r < draft.registers; r++) {
                for (int earlier = 0; earlier < r; earlier++) {
                    if (draft.offset[r] == draft.offset[earlier] && !areApart(r, earlier)) {
                        return draft.registerPlace[r];
                    }
                }
            }
            return NONE;
        }

        /** Whether two registers are never there at once. */
        private boolean areApart(int r, int other) {
            return draft.bank[r] != NONE && draft.bank[r] == draft.bank[other]
                    && draft.digit[r] != draft.digit[other];
        }

        private int badRule() {
            Rules rules = draft.rules;
            for (int k = 0; k < rules.count; k++) {
                if (!isWritable(draft.rowOf(rules.a[k]))) {
                    return rules.placeOfA[k];
                }
                int row = draft.rowOf(rules.b[k]);
                boolean good = rules.kind[k] == Rules.ONLY_AT
                        ? isKnown(row) && draft.fits(row, rules.value[k])
                        : isWritable(row);
                if (!good) {
                    return rules.placeOfB[k];
                }
            }
            return NONE;
        }

        private boolean isWritable(int row) {
            return row != NONE && draft.access[row] != R && draft.access[row] != C;
        }

        private boolean isKnown(int row) {
            return row != NONE && (draft.access[row] == W || draft.access[row] == O);
        }
    }

    /** The map that counts: registers by number, fields by name. No registers: no map. */
    private static final class Layout {
        int registers;
        final int[] offset = new int[MOST_REGISTERS];
        final int[] bank = new int[MOST_REGISTERS];
        final int[] digit = new int[MOST_REGISTERS];
        final int[] atReset = new int[MOST_REGISTERS];
        /** The bits of w and o fields. */
        final int[] known = new int[MOST_REGISTERS];
        /** By access and register: the bits of such fields. */
        final int[][] bits = new int[ACCESSES.length()][MOST_REGISTERS];

        final int[] home = new int[NAMES];
        final int[] access = new int[NAMES];
        final int[] low = new int[NAMES];
        final int[] width = new int[NAMES];
        final int[] mask = new int[NAMES];

        final Rules rules = new Rules();

        Layout() {
            Arrays.fill(home, NONE);
        }

        void follow(Draft draft) {
            registers = draft.registers;
            System.arraycopy(draft.offset, 0, offset, 0, MOST_REGISTERS);
            System.arraycopy(draft.bank, 0, bank, 0, MOST_REGISTERS);
            System.arraycopy(draft.digit, 0, digit, 0, MOST_REGISTERS);
            rules.copy(draft.rules);
            Arrays.fill(atReset, 0);
            Arrays.fill(known, 0);
            for (int kind = 0; kind < bits.length; kind++) {
                Arrays.fill(bits[kind], 0);
            }
            Arrays.fill(home, NONE);
            for (int row = 0; row < draft.fields; row++) {
                addField(draft, row);
            }
        }

        private void addField(Draft draft, int row) {
            int f = draft.name[row];
            int r = draft.home[row];
            home[f] = r;
            access[f] = draft.access[row];
            low[f] = draft.low[row];
            width[f] = draft.high[row] - draft.low[row] + 1;
            mask[f] = ((1 << width[f]) - 1) << low[f];
            atReset[r] |= draft.value[row] << low[f];
            bits[access[f]][r] |= mask[f];
            if (isKnown(f)) {
                known[r] |= mask[f];
            }
        }

        boolean has(int f) {
            return f >= 0 && f < NAMES && home[f] != NONE;
        }

        boolean isKnown(int f) {
            return access[f] == W || access[f] == O;
        }

        boolean fits(int f, int v) {
            return v >> width[f] == 0;
        }

        boolean canPut(int f, int v) {
            return has(f) && access[f] != R && access[f] != C && fits(f, v);
        }

        boolean canFetch(int f) {
            return has(f) && access[f] != O;
        }

        int bitsOf(int f, int word) {
            return (word & mask[f]) >> low[f];
        }
    }

    /** What decides over rules and ways: the values of w and o fields, and what rules look back to. */
    private static final class Mind {
        private final Layout layout;
        final int[] known = new int[MOST_REGISTERS];
        /** Bit k of an A&lt;B: A was written; of an A!B: A was, and B was not since. */
        int looks;

        Mind(Layout layout) {
            this.layout = layout;
        }

        void restart() {
            for (int r = 0; r < MOST_REGISTERS; r++) {
                known[r] = layout.atReset[r] & layout.known[r];
            }
            looks = 0;
        }

        void copy(Mind other) {
            System.arraycopy(other.known, 0, known, 0, MOST_REGISTERS);
            looks = other.looks;
        }

        boolean isThere(int r) {
            int f = layout.bank[r];
            return f == NONE || knownValue(f) == layout.digit[r];
        }

        int knownValue(int f) {
            return (known[layout.home[f]] & layout.mask[f]) >> layout.low[f];
        }

        /** The rules that this WRITE breaks, bit k for rule k. */
        int brokenBy(int r, int word) {
            Rules rules = layout.rules;
            int broken = 0;
            for (int k = 0; k < rules.count; k++) {
                boolean looked = (looks >> k & 1) == 1;
                boolean breaks;
                if (rules.kind[k] == Rules.BEFORE) {
                    breaks = !looked && isWritten(rules.b[k], r, word);
                } else if (rules.kind[k] == Rules.BETWEEN) {
                    breaks = looked && isWritten(rules.a[k], r, word);
                } else {
                    breaks = isWritten(rules.a[k], r, word) && knownValue(rules.b[k]) != rules.value[k];
                }
                if (breaks) {
                    broken |= 1 << k;
                }
            }
            return broken;
        }

        void write(int r, int word) {
            Rules rules = layout.rules;
            for (int k = 0; k < rules.count; k++) {
                if (rules.kind[k] == Rules.BEFORE && isWritten(rules.a[k], r, word)) {
                    looks |= 1 << k;
                } else if (rules.kind[k] == Rules.BETWEEN) {
                    if (isWritten(rules.b[k], r, word)) {
                        looks &= ~(1 << k);
                    } else if (isWritten(rules.a[k], r, word)) {
                        looks |= 1 << k;
                    }
                }
            }
            known[r] = word & layout.known[r];
        }

        private boolean isWritten(int f, int r, int word) {
            if (layout.home[f] != r) {
                return false;
            }
            // No bit of a t, s or p is ever known, so that for these x is compared with 0.
            return ((word ^ known[r]) & layout.mask[f]) != 0;
        }
    }

    /** The latest OPERATIONS; count goes on beyond those that are kept. */
    private static final class Log {
        int count;
        final int[] write = new int[MOST_LOGGED];
        final int[] offset = new int[MOST_LOGGED];
        final int[] word = new int[MOST_LOGGED];

        void add(int isWrite, int atOffset, int ofWord) {
            int row = count % MOST_LOGGED;
            write[row] = isWrite;
            offset[row] = atOffset;
            word[row] = ofWord;
            count++;
        }

        int rowOf(int k) {
            if (k < 0 || k >= MOST_LOGGED || k >= count) {
                return NONE;
            }
            return (count - 1 - k) % MOST_LOGGED;
        }
    }

    /** The device, and what the driver keeps of it. */
    private static final class Device {
        private final Layout layout;
        final Mind mind;
        final Log log = new Log();
        int rulesBroken;
        /** The values of r, c, t, s and p fields, in their bits. */
        private final int[] loose = new int[MOST_REGISTERS];
        /** The bits of c fields that READS cleared. */
        final int[] kept = new int[MOST_REGISTERS];
        /** How many READS the x of a p still lasts. */
        private final int[] readsLeft = new int[NAMES];

        Device(Layout layout) {
            this.layout = layout;
            mind = new Mind(layout);
        }

        void restart() {
            mind.restart();
            for (int r = 0; r < MOST_REGISTERS; r++) {
                loose[r] = layout.atReset[r] & ~layout.known[r];
            }
            Arrays.fill(kept, 0);
            Arrays.fill(readsLeft, 0);
            rulesBroken = 0;
            log.count = 0;
        }

        int registerAt(int offset) {
            for (int r = 0; r < layout.registers; r++) {
                if (layout.offset[r] == offset && mind.isThere(r)) {
                    return r;
                }
            }
            return NONE;
        }

        int valueOf(int f) {
            int r = layout.home[f];
            return layout.bitsOf(f, mind.known[r] | loose[r]);
        }

        void setLoose(int f, int v) {
            int r = layout.home[f];
            loose[r] = (loose[r] & ~layout.mask[f]) | v << layout.low[f];
        }

        void write(int r, int word) {
            log.add(1, layout.offset[r], word);
            mind.write(r, word);
            loose[r] &= ~(word & layout.bits[T][r]);
            loose[r] |= word & layout.bits[S][r];
            if ((word & layout.bits[P][r]) != 0) {
                startPulses(r, word);
            }
        }

        private void startPulses(int r, int word) {
            for (int f = 0; f < NAMES; f++) {
                if (layout.home[f] == r && layout.access[f] == P && layout.bitsOf(f, word) != 0) {
                    setLoose(f, layout.bitsOf(f, word));
                    readsLeft[f] = 2;
                }
            }
        }

        int read(int r) {
            int word = (mind.known[r] & ~layout.bits[O][r]) | loose[r];
            log.add(0, layout.offset[r], word);
            kept[r] |= loose[r] & layout.bits[C][r];
            loose[r] &= ~layout.bits[C][r];
            if (layout.bits[P][r] != 0) {
                countPulses(r);
            }
            return word;
        }

        private void countPulses(int r) {
            for (int f = 0; f < NAMES; f++) {
                if (layout.home[f] == r && readsLeft[f] > 0) {
                    readsLeft[f]--;
                    if (readsLeft[f] == 0) {
                        setLoose(f, 0);
                    }
                }
            }
        }

        int takeKept(int f) {
            int r = layout.home[f];
            int bits = layout.bitsOf(f, kept[r]);
            kept[r] &= ~layout.mask[f];
            return bits;
        }
    }

    /** Rows of kind, field and value: a script, or PUTS that wait. */
    private static final class Steps {
        int count;
        final int[] kind;
        final int[] f;
        final int[] v;

        Steps(int most) {
            kind = new int[most];
            f = new int[most];
            v = new int[most];
        }

        boolean isFull() {
            return count >= kind.length;
        }

        /** The caller has seen that it is not full. */
        void append(int ofKind, int ofField, int value) {
            kind[count] = ofKind;
            f[count] = ofField;
            v[count] = value;
            count++;
        }

        int empty() {
            int were = count;
            count = 0;
            return were;
        }
    }

    /**
     * The WRITES that something needs, found on a copy of the device's mind, so that a rule that
     * would be broken is seen ahead of the first of them.
     */
    private static final class Plan {
        private static final int MOST_WRITES = 2 * MOST_JOINED;

        private final Layout layout;
        /** How things are behind the WRITES planned so far. */
        final Mind mind;
        int writes;
        final int[] register = new int[MOST_WRITES];
        final int[] word = new int[MOST_WRITES];
        /** 1 more than the rule that breaks first, 0 without one. */
        int broken;

        Plan(Layout layout) {
            this.layout = layout;
            mind = new Mind(layout);
        }

        void begin(Mind from) {
            mind.copy(from);
            beginHere();
        }

        void beginHere() {
            writes = 0;
            broken = 0;
        }

        void addPut(int f, int v) {
            if (layout.isKnown(f) && mind.knownValue(f) == v) {
                return;
            }
            int r = layout.home[f];
            addReach(r);
            addTold(r, layout.mask[f], v << layout.low[f]);
        }

        void addFetch(int f) {
            if (layout.access[f] != W) {
                addReach(layout.home[f]);
            }
        }

        void addJoined(Steps puts) {
            for (int i = 0; i < puts.count; i++) {
                if (isFirstOfRegister(puts, i)) {
                    addRegister(puts, layout.home[puts.f[i]]);
                }
            }
        }

        private boolean isFirstOfRegister(Steps puts, int i) {
            int r = layout.home[puts.f[i]];
            for (int j = 0; j < i; j++) {
                if (layout.home[puts.f[j]] == r) {
                    return false;
                }
            }
            return true;
        }

        private void addRegister(Steps puts, int r) {
            int told = 0;
            int x = 0;
            for (int i = 0; i < puts.count; i++) {
                int f = puts.f[i];
                if (layout.home[f] != r) {
                    continue;
                }
                int mask = layout.mask[f];
                if (layout.isKnown(f)) {
                    x &= ~mask;
                }
                told |= mask;
                x |= puts.v[i] << layout.low[f];
            }
            boolean onlyKnown = (told & ~layout.known[r]) == 0;
            if (onlyKnown && (mind.known[r] & told) == x) {
                return;
            }
            addReach(r);
            addTold(r, told, x);
        }

        private void addReach(int r) {
            if (!mind.isThere(r)) {
                int f = layout.bank[r];
                addTold(layout.home[f], layout.mask[f], layout.digit[r] << layout.low[f]);
            }
        }

        private void addTold(int r, int told, int x) {
            if (broken != 0 || writes >= MOST_WRITES) {
                return;
            }
            int whole = (mind.known[r] & ~told) | x;
            int rulesBroken = mind.brokenBy(r, whole);
            if (rulesBroken != 0) {
                broken = 1 + Integer.numberOfTrailingZeros(rulesBroken);
                return;
            }
            mind.write(r, whole);
            register[writes] = r;
            word[writes] = whole;
            writes++;
        }
    }

    /** Goes all ways of the script, situation by situation, each one once. */
    private static final class Checker {
        /** Four longs for the words of 16 registers, one for the step and what rules look back to. */
        private static final int LONGS = 5;
        private static final int LAST = LONGS - 1;
        private static final int STEP_BITS = 8;
        private static final int SLOTS = 2048;

        private final Layout layout;
        private final Steps script;
        private final Plan plan;
        private final long[] rows = new long[MOST_SITUATIONS * LONGS];
        private final long[] key = new long[LONGS];
        /** Where situations are found again: 1 more than their number, 0 if free. */
        private final int[] slots = new int[SLOTS];
        int count;
        boolean tooMany;
        int stepTold = NONE;
        int ruleTold;

        Checker(Layout layout, Steps script, Plan plan) {
            this.layout = layout;
            this.script = script;
            this.plan = plan;
        }

        void begin() {
            Arrays.fill(slots, 0);
            count = 0;
            tooMany = false;
            stepTold = NONE;
            ruleTold = 0;
            plan.mind.restart();
            meet(0);
        }

        void visit(int i) {
            int at = load(i);
            if (at >= script.count) {
                return;
            }
            int kind = script.kind[at];
            if (kind == END) {
                meet(script.count);
            } else if (kind == GO) {
                meet(at + 1);
                meet(script.v[at]);
            } else {
                plan.beginHere();
                if (kind == PUT) {
                    plan.addPut(script.f[at], script.v[at]);
                } else {
                    plan.addFetch(script.f[at]);
                }
                if (plan.broken == 0) {
                    meet(at + 1);
                } else {
                    tell(at, plan.broken);
                }
            }
        }

        private void tell(int at, int rule) {
            if (stepTold == NONE || at < stepTold) {
                stepTold = at;
                ruleTold = rule;
            } else if (at == stepTold && rule < ruleTold) {
                ruleTold = rule;
            }
        }

        /** The step of situation i; the plan's mind becomes as it is there. */
        private int load(int i) {
            int from = i * LONGS;
            for (int r = 0; r < layout.registers; r++) {
                plan.mind.known[r] = (int) (rows[from + (r >> 2)] >>> ((r & 3) * WORD_BITS)) & WORD;
            }
            long last = rows[from + LAST];
            plan.mind.looks = (int) (last >>> STEP_BITS);
            return (int) last & ((1 << STEP_BITS) - 1);
        }

        /** The plan's mind at a step is a situation: it is added, if it is a new one. */
        private void meet(int step) {
            makeKey(Math.min(step, script.count));
            int from = hashOfKey();
            for (int i = 0; i < SLOTS; i++) {
                int slot = (from + i) & (SLOTS - 1);
                if (slots[slot] == 0) {
                    add(slot);
                    return;
                }
                if (isKey((slots[slot] - 1) * LONGS)) {
                    return;
                }
            }
        }

        private void makeKey(int step) {
            Arrays.fill(key, 0);
            for (int r = 0; r < layout.registers; r++) {
                key[r >> 2] |= (long) plan.mind.known[r] << ((r & 3) * WORD_BITS);
            }
            key[LAST] = (long) plan.mind.looks << STEP_BITS | step;
        }

        private int hashOfKey() {
            long hash = 0;
            for (int i = 0; i < LONGS; i++) {
                hash = (hash ^ key[i]) * 0x9E3779B97F4A7C15L;
                hash ^= hash >>> 29;
            }
            return (int) (hash >>> 32) & (SLOTS - 1);
        }

        private boolean isKey(int from) {
            for (int i = 0; i < LONGS; i++) {
                if (rows[from + i] != key[i]) {
                    return false;
                }
            }
            return true;
        }

        private void add(int slot) {
            if (count >= MOST_SITUATIONS) {
                tooMany = true;
                return;
            }
            System.arraycopy(key, 0, rows, count * LONGS, LONGS);
            count++;
            slots[slot] = count;
        }
    }
}
