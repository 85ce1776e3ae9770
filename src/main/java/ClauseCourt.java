import java.util.Arrays;
import java.util.NoSuchElementException;

/**
 * A court of proofs: it reads a formula in clauses and a DRAT proof, weighs the proof forwards or
 * backwards, and tells the core, a shorter proof and each lemma's hints.
 *
 * <p>Every row is made once, in the constructor, and used again by all calls: a call makes nothing.
 */
public final class ClauseCourt {
    public static final int NONE = -1;

    private static final int MAX_BYTES = 6000;
    private static final int BYTES_A_FEED = 20;
    private static final int MAX_VARIABLE = 150;
    private static final int MAX_CLAUSES = 300;
    private static final int MAX_STEPS = 300;
    private static final int MAX_NUMBER = MAX_CLAUSES + MAX_STEPS;
    private static final int MAX_IN_ROW = 40;
    private static final int MAX_LITERALS = 2000;
    private static final int MAX_HINTS = 4000;
    private static final int MAX_FUEL = 20000;
    private static final int MAX_CODE = 2 * MAX_VARIABLE + 1;

    private static final int MISPLACED = 1;
    private static final int BEYOND_BOUND = 2;
    private static final int TOO_MANY = 3;

    private static final int VERIFIED = 0;
    private static final int INVALID = 1;
    private static final int OUT_OF_FUEL = 2;

    private final Bytes tape = new Bytes(MAX_BYTES);
    private final Bytes shortened = new Bytes(MAX_BYTES);
    private Sheet formulaSheet = new Sheet();
    private Sheet proofSheet = new Sheet();
    // What is being read comes here first, so that a faulty text leaves the others as they are.
    private Sheet spareSheet = new Sheet();
    private final Reader reader = new Reader(tape, spareSheet);
    private final Clauses clauses = new Clauses(proofSheet);
    private final Judge judge = new Judge(clauses);
    private int faultKind = 0;
    private int faultPlace = NONE;

    public ClauseCourt() {
    }

    public int feed(int a, int b, int c, int d, int e) {
        if (tape.written() + BYTES_A_FEED > MAX_BYTES) {
            return NONE;
        }
        tape.addWord(a);
        tape.addWord(b);
        tape.addWord(c);
        tape.addWord(d);
        tape.addWord(e);
        return tape.written();
    }

    public int formula(int n) throws IllegalArgumentException {
        if (!tapeHas(n)) {
            throw new IllegalArgumentException("the tape has not so many bytes");
        }
        reader.readFormula(tape, n, spareSheet);
        noteReading();
        if (faultKind == 0) {
            Sheet old = formulaSheet;
            formulaSheet = spareSheet;
            spareSheet = old;
            proofSheet.clear();
            startAnew();
        }
        return faultKind;
    }

    public int proof(int n, boolean bytes) throws IllegalArgumentException {
        if (!tapeHas(n)) {
            throw new IllegalArgumentException("the tape has not so many bytes");
        }
        if (bytes) {
            reader.readByteProof(tape, n, spareSheet);
        } else {
            reader.readTextProof(tape, n, spareSheet);
        }
        noteReading();
        if (faultKind == 0) {
            takeSpareAsProof();
        }
        return faultKind;
    }

    public int fault(int what) throws NoSuchElementException {
        switch (what) {
            case 0:
                return faultKind;
            case 1:
                return faultPlace;
            default:
                throw new NoSuchElementException("a fault has a kind (0) and a place (1)");
        }
    }

    public int weigh(boolean backwards, boolean rat, boolean units, int fuel) throws IllegalArgumentException {
        if (fuel < 0 || fuel > MAX_FUEL) {
            throw new IllegalArgumentException("fuel is 0 to 20000");
        }
        judge.begin(rat, units, fuel);
        judge.goForwards(!backwards);
        if (backwards) {
            judge.goBack();
        }
        return judge.verdict();
    }

    public int count(int what) throws NoSuchElementException {
        switch (what) {
            case 0:
                return judge.verdict();
            case 1:
                return judge.failedStep();
            case 2:
                return judge.conflictStep();
            case 3:
                return judge.fuelLeft();
            case 4:
                return judge.markedBetween(1, clauses.ofFormula());
            case 5:
                return judge.markedBetween(clauses.ofFormula() + 1, clauses.inAll());
            case 6:
                return judge.heldByRup();
            case 7:
                return judge.heldByRat();
            case 8:
                return clauses.ofFormula();
            case 9:
                return proofSheet.rows();
            case 10:
                return formulaSheet.variables();
            case 11:
                return tape.written();
            default:
                throw new NoSuchElementException("there are counts 0 to 11");
        }
    }

    public int clause(int k, int what) throws NoSuchElementException {
        if (k < 1 || k > clauses.inAll() || what < 0) {
            throw new NoSuchElementException("there is no such clause");
        }
        switch (what) {
            case 0:
                return judge.isMarked(k) ? 1 : 0;
            case 1:
                return clauses.size(k);
            default:
                return clauses.literal(k, what - 2);
        }
    }

    public int step(int i, int what) throws NoSuchElementException {
        if (i < 1 || i > proofSheet.rows() || what < 0) {
            throw new NoSuchElementException("there is no such step");
        }
        switch (what) {
            case 0:
                return proofSheet.isDeletion(i) ? 1 : 0;
            case 1:
                return clauses.numberOfStep(i);
            case 2:
                return proofSheet.size(i);
            default:
                return proofSheet.literal(i, what - 3);
        }
    }

    public int hint(int k, int j) throws NoSuchElementException {
        if (k < 0 || k > clauses.inAll() || j < 0) {
            throw new NoSuchElementException("there is no such clause");
        }
        return judge.hintOf(k, j);
    }

    public int shorter() {
        shortened.clear();
        int last = judge.lastStepWeighed();
        for (int i = 1; i <= last; i++) {
            if (judge.staysInProof(i)) {
                writeStep(i);
            }
        }
        return shortened.written();
    }

    public int out(int k) throws NoSuchElementException {
        if (k < 0 || k >= shortened.kept()) {
            throw new NoSuchElementException("no such byte is kept");
        }
        return shortened.at(k);
    }

    public int takeShorter() {
        if (shortened.written() > shortened.kept()) {
            return NONE;
        }
        reader.readTextProof(shortened, shortened.kept(), spareSheet);
        takeSpareAsProof();
        return proofSheet.rows();
    }

    private boolean tapeHas(int n) {
        return n >= 0 && n <= tape.written();
    }

    /** The tape is empty behind every reading, a faulty one too. */
    private void noteReading() {
        faultKind = reader.kind();
        faultPlace = reader.place();
        tape.clear();
    }

    private void takeSpareAsProof() {
        Sheet old = proofSheet;
        proofSheet = spareSheet;
        spareSheet = old;
        startAnew();
    }

    private void startAnew() {
        clauses.numberAll(formulaSheet, proofSheet);
        judge.forget();
    }

    private void writeStep(int i) {
        if (proofSheet.isDeletion(i)) {
            shortened.add('d');
            shortened.add(' ');
        }
        int size = proofSheet.size(i);
        for (int j = 0; j < size; j++) {
            shortened.addDigits(proofSheet.literal(i, j));
            shortened.add(' ');
        }
        shortened.add('0');
        shortened.add('\n');
    }

    /** Literals as the byte proofs write them: also the place of a literal in rows by literals. */
    private static int codeOf(int literal) {
        return literal >= 0 ? 2 * literal : 1 - 2 * literal;
    }

    /** Numbers at places; a place outside holds 0 and keeps nothing, so that no index can throw. */
    private static final class Row {
        private final int[] cells;

        Row(int length) {
            cells = new int[Math.max(length, 0)];
        }

        int at(int place) {
            return place >= 0 && place < cells.length ? cells[place] : 0;
        }

        void put(int place, int value) {
            if (place >= 0 && place < cells.length) {
                cells[place] = value;
            }
        }

        void fill(int value) {
            Arrays.fill(cells, value);
        }
    }

    /** Bytes behind one another: all that are written are counted, only those with room are kept. */
    private static final class Bytes {
        private final byte[] cells;
        private int written = 0;

        Bytes(int room) {
            cells = new byte[Math.max(room, 0)];
        }

        void clear() {
            written = 0;
        }

        int written() {
            return written;
        }

        int kept() {
            return Math.min(written, cells.length);
        }

        int at(int place) {
            return place >= 0 && place < written && place < cells.length ? cells[place] & 255 : 0;
        }

        void add(int value) {
            if (written >= 0 && written < cells.length) {
                cells[written] = (byte) value;
            }
            written++;
        }

        void addWord(int word) {
            add(word >>> 24);
            add(word >>> 16);
            add(word >>> 8);
            add(word);
        }

        void addDigits(int literal) {
            int rest = Math.abs(literal);
            if (literal < 0) {
                add('-');
            }
            if (rest >= 100) {
                add('0' + rest / 100 % 10);
            }
            if (rest >= 10) {
                add('0' + rest / 10 % 10);
            }
            add('0' + rest % 10);
        }
    }

    /** Rows of literals, from 1 on: the clauses of a formula, or the steps of a proof. */
    private static final class Sheet {
        private final Row literals = new Row(MAX_LITERALS);
        private final Row ends = new Row(MAX_CLAUSES + 1);
        private final Row deletions = new Row(MAX_CLAUSES + 1);
        private int rows = 0;
        private int filled = 0;
        private int variables = 0;

        void clear() {
            rows = 0;
            filled = 0;
            variables = 0;
        }

        int rows() {
            return rows;
        }

        int variables() {
            return variables;
        }

        void setVariables(int bound) {
            variables = bound;
        }

        /** Adds to the row that is not closed yet; a literal that stands in it already is left out. */
        void add(int literal) {
            for (int place = ends.at(rows); place < filled; place++) {
                if (literals.at(place) == literal) {
                    return;
                }
            }
            literals.put(filled, literal);
            filled++;
        }

        void closeRow(boolean deletion) {
            rows++;
            ends.put(rows, filled);
            deletions.put(rows, deletion ? 1 : 0);
        }

        boolean isDeletion(int row) {
            return deletions.at(row) != 0;
        }

        int size(int row) {
            return ends.at(row) - ends.at(row - 1);
        }

        int literal(int row, int j) {
            return j >= 0 && j < size(row) ? literals.at(ends.at(row - 1) + j) : 0;
        }
    }

    /** A text's tokens, one after the other, without the lines that begin with c. */
    private static final class Tokens {
        private static final int MAX_DIGITS = 6;

        private Bytes source;
        private int end = 0;
        private int start = 0;
        private int stop = 0;

        Tokens(Bytes source) {
            this.source = source;
        }

        void begin(Bytes text, int length) {
            source = text;
            end = length;
            start = 0;
            stop = 0;
        }

        /** Where the token begins; at the text's end its length, where a text that is too short is blamed. */
        int start() {
            return start;
        }

        boolean next() {
            boolean comment = false;
            for (int place = stop; place < end; place++) {
                int value = source.at(place);
                if (place == 0 || source.at(place - 1) == '\n') {
                    comment = value == 'c';
                }
                if (!comment && !isGap(value)) {
                    start = place;
                    stop = endOfToken(place);
                    return true;
                }
            }
            start = end;
            stop = end;
            return false;
        }

        /** The token will be the next one once more. */
        void putBack() {
            stop = start;
        }

        boolean spells(String word) {
            int length = word.length();
            if (stop - start != length) {
                return false;
            }
            for (int i = 0; i < length; i++) {
                if (source.at(start + i) != word.charAt(i)) {
                    return false;
                }
            }
            return true;
        }

        boolean isNumber() {
            int first = firstDigit();
            int digits = stop - first;
            if (digits < 1 || digits > MAX_DIGITS) {
                return false;
            }
            for (int place = first; place < stop; place++) {
                int value = source.at(place);
                if (value < '0' || value > '9') {
                    return false;
                }
            }
            return true;
        }

        /** Only behind isNumber(), which keeps it small. */
        int number() {
            int first = firstDigit();
            int value = 0;
            for (int place = first; place < stop; place++) {
                value = 10 * value + source.at(place) - '0';
            }
            return first > start ? -value : value;
        }

        private int firstDigit() {
            return source.at(start) == '-' ? start + 1 : start;
        }

        private int endOfToken(int from) {
            for (int place = from; place < end; place++) {
                if (isGap(source.at(place))) {
                    return place;
                }
            }
            return end;
        }

        private static boolean isGap(int value) {
            return value == ' ' || value == '\t' || value == '\r' || value == '\n';
        }
    }

    /** Reads a formula or a proof onto a sheet, up to the first fault along the text. */
    private static final class Reader {
        private final Tokens tokens;
        private Bytes source;
        private Sheet sheet;
        private int end = 0;
        private int position = 0;
        private int inRow = 0;
        private int inText = 0;
        private int kind = 0;
        private int place = NONE;

        Reader(Bytes source, Sheet sheet) {
            tokens = new Tokens(source);
            this.source = source;
            this.sheet = sheet;
        }

        int kind() {
            return kind;
        }

        int place() {
            return place;
        }

        void readFormula(Bytes text, int length, Sheet target) {
            begin(text, length, target);
            expectWord("p");
            expectWord("cnf");
            int variables = expectNumber(MAX_VARIABLE);
            int rows = expectNumber(MAX_CLAUSES);
            sheet.setVariables(variables);
            for (int i = 1; i <= rows && kind == 0; i++) {
                readRow(variables);
                sheet.closeRow(false);
            }
            if (kind == 0 && tokens.next()) {
                blame(MISPLACED, tokens.start());
            }
        }

        void readTextProof(Bytes text, int length, Sheet target) {
            begin(text, length, target);
            for (int i = 1; i <= MAX_STEPS + 1 && kind == 0 && tokens.next(); i++) {
                boolean deletion = tokens.spells("d");
                if (!deletion) {
                    tokens.putBack();
                }
                if (i > MAX_STEPS) {
                    blameStepTooMany(deletion);
                } else {
                    readRow(MAX_VARIABLE);
                    sheet.closeRow(deletion);
                }
            }
        }

        void readByteProof(Bytes text, int length, Sheet target) {
            begin(text, length, target);
            for (int i = 1; i <= MAX_STEPS + 1 && kind == 0 && position < end; i++) {
                int value = source.at(position);
                if (value != 'a' && value != 'd') {
                    blame(MISPLACED, position);
                } else if (i > MAX_STEPS) {
                    blame(TOO_MANY, position);
                } else {
                    position++;
                    readByteRow();
                    sheet.closeRow(value == 'd');
                }
            }
        }

        private void begin(Bytes text, int length, Sheet target) {
            tokens.begin(text, length);
            source = text;
            end = length;
            sheet = target;
            sheet.clear();
            position = 0;
            inText = 0;
            kind = 0;
            place = NONE;
        }

        private void blame(int fault, int where) {
            kind = fault;
            place = where;
        }

        private void expectWord(String word) {
            if (kind == 0 && !(tokens.next() && tokens.spells(word))) {
                blame(MISPLACED, tokens.start());
            }
        }

        private int expectNumber(int bound) {
            if (kind != 0) {
                return 0;
            }
            tokens.next();
            int fault = faultOfToken(bound);
            if (fault == 0 && tokens.number() < 0) {
                fault = BEYOND_BOUND;
            }
            if (fault != 0) {
                blame(fault, tokens.start());
                return 0;
            }
            return tokens.number();
        }

        /** Of the token as a number of either sign; the text's end is no number either. */
        private int faultOfToken(int bound) {
            if (!tokens.isNumber()) {
                return MISPLACED;
            }
            return Math.abs(tokens.number()) > bound ? BEYOND_BOUND : 0;
        }

        /** A d is in its place at least; another token may have a lesser fault of its own. */
        private void blameStepTooMany(boolean deletion) {
            int fault = 0;
            if (!deletion && tokens.next()) {
                fault = faultOfToken(MAX_VARIABLE);
            }
            blame(fault == 0 ? TOO_MANY : fault, tokens.start());
        }

        private void readRow(int bound) {
            inRow = 0;
            for (int turn = 0; turn <= MAX_IN_ROW && kind == 0; turn++) {
                tokens.next();
                int fault = faultOfToken(bound);
                if (fault != 0) {
                    blame(fault, tokens.start());
                } else if (tokens.number() == 0) {
                    return;
                } else {
                    takeLiteral(tokens.number(), tokens.start());
                }
            }
        }

        private void takeLiteral(int literal, int where) {
            inRow++;
            inText++;
            if (inRow > MAX_IN_ROW || inText > MAX_LITERALS) {
                blame(TOO_MANY, where);
            } else {
                sheet.add(literal);
            }
        }

        private void readByteRow() {
            inRow = 0;
            for (int turn = 0; turn <= MAX_IN_ROW && kind == 0; turn++) {
                if (position >= end) {
                    blame(MISPLACED, end);
                } else if (source.at(position) == 0) {
                    position++;
                    return;
                } else {
                    readByteLiteral();
                }
            }
        }

        private void readByteLiteral() {
            int where = position;
            int code = source.at(where);
            position++;
            if (code >= 128) {
                if (position >= end) {
                    blame(MISPLACED, end);
                    return;
                }
                int last = source.at(position);
                if (last == 0 || last >= 128) {
                    blame(MISPLACED, where);
                    return;
                }
                code = code - 128 + 128 * last;
                position++;
            }
            if (code < 2 || code > MAX_CODE) {
                blame(BEYOND_BOUND, where);
            } else {
                takeLiteral((code & 1) == 0 ? code / 2 : -(code / 2), where);
            }
        }
    }

    /** All clauses by their numbers, those of the formula and then those of additions; and where each literal stands. */
    private static final class Clauses {
        private final Row literals = new Row(2 * MAX_LITERALS);
        private final Row ends = new Row(MAX_NUMBER + 1);
        private final Row numbersOfSteps = new Row(MAX_STEPS + 1);
        private final Row users = new Row(2 * MAX_LITERALS);
        private final Row useStarts = new Row(MAX_CODE + 1);
        private final Row useEnds = new Row(MAX_CODE + 1);
        private Sheet proof;
        private int filled = 0;
        private int ofFormula = 0;
        private int inAll = 0;

        Clauses(Sheet proof) {
            this.proof = proof;
        }

        void numberAll(Sheet formula, Sheet steps) {
            proof = steps;
            filled = 0;
            inAll = 0;
            ofFormula = formula.rows();
            for (int i = 1; i <= ofFormula; i++) {
                append(formula, i);
            }
            for (int i = 1; i <= proof.rows(); i++) {
                if (proof.isDeletion(i)) {
                    numbersOfSteps.put(i, 0);
                } else {
                    append(proof, i);
                    numbersOfSteps.put(i, inAll);
                }
            }
            listUsers();
        }

        int ofFormula() {
            return ofFormula;
        }

        int inAll() {
            return inAll;
        }

        int steps() {
            return proof.rows();
        }

        int numberOfStep(int i) {
            return numbersOfSteps.at(i);
        }

        int size(int k) {
            return ends.at(k) - ends.at(k - 1);
        }

        int literal(int k, int j) {
            int start = ends.at(k - 1);
            return j >= 0 && j < ends.at(k) - start ? literals.at(start + j) : 0;
        }

        /** Whether clause k has just the literals of step i; in neither does one stand twice. */
        boolean isAsStep(int k, int i) {
            int size = size(k);
            if (size != proof.size(i)) {
                return false;
            }
            for (int j = 0; j < size; j++) {
                if (!contains(k, proof.literal(i, j))) {
                    return false;
                }
            }
            return true;
        }

        /** The clauses with a literal are user(firstUse) up to, without it, user(endOfUses), by numbers. */
        int firstUse(int literal) {
            return useStarts.at(codeOf(literal));
        }

        int endOfUses(int literal) {
            return useEnds.at(codeOf(literal));
        }

        int user(int use) {
            return users.at(use);
        }

        private boolean contains(int k, int literal) {
            for (int place = ends.at(k - 1); place < ends.at(k); place++) {
                if (literals.at(place) == literal) {
                    return true;
                }
            }
            return false;
        }

        private void append(Sheet sheet, int row) {
            int size = sheet.size(row);
            for (int j = 0; j < size; j++) {
                literals.put(filled + j, sheet.literal(row, j));
            }
            filled += size;
            inAll++;
            ends.put(inAll, filled);
        }

        private void listUsers() {
            reserveUses();
            for (int k = 1; k <= inAll; k++) {
                int size = size(k);
                for (int j = 0; j < size; j++) {
                    int code = codeOf(literal(k, j));
                    users.put(useEnds.at(code), k);
                    useEnds.put(code, useEnds.at(code) + 1);
                }
            }
        }

        /** Gives each literal room for its users; its end begins at its start and moves as they come. */
        private void reserveUses() {
            useEnds.fill(0);
            for (int place = 0; place < filled; place++) {
                int code = codeOf(literals.at(place));
                useEnds.put(code, useEnds.at(code) + 1);
            }
            int start = 0;
            for (int code = 0; code <= MAX_CODE; code++) {
                int uses = useEnds.at(code);
                useStarts.put(code, start);
                useEnds.put(code, start);
                start += uses;
            }
        }
    }

    /**
     * Unit propagation over the active clauses. For each clause it counts the literals that are not
     * false; a clause with at most one of them is ready, and the ready ones wait in a set of bits,
     * marked ones ahead of others, so that the first one is found without a look at all clauses.
     */
    private static final class Propagation {
        static final int QUIET = 0;
        static final int CONFLICT = 1;
        static final int OUT = 2;

        private static final int BITS = 32;
        private static final int WORDS_A_GROUP = MAX_NUMBER / BITS + 1;
        private static final int UNMARKED = WORDS_A_GROUP * BITS;

        private final Clauses clauses;
        private final Row active = new Row(MAX_NUMBER + 1);
        private final Row marked = new Row(MAX_NUMBER + 1);
        private final Row left = new Row(MAX_NUMBER + 1);
        private final Row shortOnes = new Row(MAX_NUMBER + 1);
        private final Row ready = new Row(2 * WORDS_A_GROUP);
        private final Row values = new Row(MAX_VARIABLE + 1);
        private final Row assumptions = new Row(2 * MAX_IN_ROW);
        private final Row trail = new Row(MAX_VARIABLE);
        private final Row reasons = new Row(MAX_VARIABLE);
        private final Row wanted = new Row(MAX_CODE + 1);
        private final Row used = new Row(MAX_VARIABLE + 1);
        private int shortCount = 0;
        private int assumed = 0;
        private int trailLength = 0;
        private int usedCount = 0;
        private int conflict = 0;
        private int fuel = 0;

        Propagation(Clauses clauses) {
            this.clauses = clauses;
        }

        /** Nothing is marked, and the clauses of the formula are active. */
        void begin(int fuelAtFirst) {
            forget();
            fuel = fuelAtFirst;
            trailLength = 0;
            shortCount = 0;
            values.fill(0);
            for (int k = 1; k <= clauses.inAll(); k++) {
                active.put(k, k <= clauses.ofFormula() ? 1 : 0);
                left.put(k, clauses.size(k));
                if (clauses.size(k) <= 1) {
                    shortOnes.put(shortCount, k);
                    shortCount++;
                }
            }
        }

        void forget() {
            fuel = 0;
            marked.fill(0);
        }

        int fuelLeft() {
            return fuel;
        }

        boolean isActive(int k) {
            return active.at(k) != 0;
        }

        void setActive(int k, boolean value) {
            active.put(k, value ? 1 : 0);
        }

        boolean isMarked(int k) {
            return marked.at(k) != 0;
        }

        void mark(int k) {
            marked.put(k, 1);
        }

        /** Takes back what was true, and waits for assumptions. */
        void restart() {
            for (int t = 0; t < trailLength; t++) {
                takeBack(trail.at(t));
            }
            trailLength = 0;
            assumed = 0;
            conflict = 0;
            ready.fill(0);
            for (int i = 0; i < shortCount; i++) {
                makeReady(shortOnes.at(i));
            }
        }

        /** The other signs of a clause's literals, but that of the one that is spared. */
        void assumeOpposites(int k, int spared) {
            int size = clauses.size(k);
            for (int j = 0; j < size; j++) {
                int literal = clauses.literal(k, j);
                if (literal != spared) {
                    assumptions.put(assumed, -literal);
                    assumed++;
                }
            }
        }

        int run() {
            for (int i = 0; i < assumed; i++) {
                int literal = assumptions.at(i);
                int truth = truthOf(literal);
                if (truth < 0) {
                    return CONFLICT;
                }
                if (truth == 0 && !makeTrue(literal, 0)) {
                    return OUT;
                }
            }
            // A clause is made ready at most once in a run, so that many turns are enough.
            for (int turn = 0; turn <= MAX_NUMBER; turn++) {
                int k = takeFirstReady();
                if (k == 0) {
                    return QUIET;
                }
                if (!isSatisfied(k)) {
                    int literal = openLiteral(k);
                    if (literal == 0) {
                        conflict = k;
                        return CONFLICT;
                    }
                    if (!makeTrue(literal, k)) {
                        return OUT;
                    }
                }
            }
            return QUIET;
        }

        /** Of the latest run, until the next restart. */
        boolean isReason(int k) {
            for (int t = 0; t < trailLength; t++) {
                if (reasons.at(t) == k) {
                    return true;
                }
            }
            return false;
        }

        /** Gathers what the latest conflict used, in the order of the hints. */
        void gatherUsed() {
            usedCount = 0;
            if (conflict == 0) {
                return;
            }
            wanted.fill(0);
            wantOpposites(conflict);
            int place = trailLength;
            for (int t = trailLength - 1; t >= 0; t--) {
                int reason = reasons.at(t);
                if (reason != 0 && wanted.at(codeOf(trail.at(t))) != 0) {
                    wantOpposites(reason);
                    place--;
                    used.put(place, reason);
                }
            }
            for (int t = place; t < trailLength; t++) {
                used.put(t - place, used.at(t));
            }
            usedCount = trailLength - place;
            used.put(usedCount, conflict);
            usedCount++;
        }

        int usedCount() {
            return usedCount;
        }

        int usedAt(int i) {
            return used.at(i);
        }

        private void wantOpposites(int k) {
            int size = clauses.size(k);
            for (int j = 0; j < size; j++) {
                wanted.put(codeOf(-clauses.literal(k, j)), 1);
            }
        }

        private int truthOf(int literal) {
            int value = values.at(Math.abs(literal));
            return literal > 0 ? value : -value;
        }

        private boolean isSatisfied(int k) {
            int size = clauses.size(k);
            for (int j = 0; j < size; j++) {
                if (truthOf(clauses.literal(k, j)) > 0) {
                    return true;
                }
            }
            return false;
        }

        private int openLiteral(int k) {
            int size = clauses.size(k);
            for (int j = 0; j < size; j++) {
                int literal = clauses.literal(k, j);
                if (truthOf(literal) == 0) {
                    return literal;
                }
            }
            return 0;
        }

        /** False if there is no fuel for it. */
        private boolean makeTrue(int literal, int reason) {
            if (fuel <= 0) {
                return false;
            }
            fuel--;
            values.put(Math.abs(literal), literal > 0 ? 1 : -1);
            trail.put(trailLength, literal);
            reasons.put(trailLength, reason);
            trailLength++;
            int end = clauses.endOfUses(-literal);
            for (int use = clauses.firstUse(-literal); use < end; use++) {
                int k = clauses.user(use);
                int rest = left.at(k) - 1;
                left.put(k, rest);
                if (rest == 1) {
                    makeReady(k);
                }
            }
            return true;
        }

        private void takeBack(int literal) {
            values.put(Math.abs(literal), 0);
            int end = clauses.endOfUses(-literal);
            for (int use = clauses.firstUse(-literal); use < end; use++) {
                int k = clauses.user(use);
                left.put(k, left.at(k) + 1);
            }
        }

        private void makeReady(int k) {
            if (active.at(k) != 0) {
                int rank = marked.at(k) != 0 ? k : UNMARKED + k;
                int word = rank / BITS;
                ready.put(word, ready.at(word) | 1 << rank % BITS);
            }
        }

        /** The number of the first ready clause, which is ready no more; 0 if there is none. */
        private int takeFirstReady() {
            for (int i = 0; i < 2 * WORDS_A_GROUP; i++) {
                int word = ready.at(i);
                if (word != 0) {
                    int lowest = word & -word;
                    ready.put(i, word ^ lowest);
                    int rank = i * BITS + Integer.bitCount(lowest - 1);
                    return rank >= UNMARKED ? rank - UNMARKED : rank;
                }
            }
            return 0;
        }
    }

    /** The hints by clauses, 0 for the conflict from nothing, as far as there is room for all. */
    private static final class Hints {
        private final Row cells = new Row(MAX_HINTS);
        private final Row starts = new Row(MAX_NUMBER + 1);
        private final Row ends = new Row(MAX_NUMBER + 1);
        private int filled = 0;

        void clear() {
            filled = 0;
            starts.fill(0);
            ends.fill(0);
        }

        void open(int k) {
            starts.put(k, filled);
            ends.put(k, filled);
        }

        void add(int k, int value) {
            if (filled < MAX_HINTS) {
                cells.put(filled, value);
                filled++;
                ends.put(k, filled);
            }
        }

        /** What came since open(k) is taken back. */
        void drop(int k) {
            filled = starts.at(k);
            ends.put(k, filled);
        }

        int at(int k, int j) {
            int start = starts.at(k);
            return j >= 0 && j < ends.at(k) - start ? cells.at(start + j) : 0;
        }
    }

    /** Weighs the proof, and knows of the latest weighing what can be asked of it. */
    private static final class Judge {
        private final Clauses clauses;
        private final Propagation propagation;
        private final Hints hints = new Hints();
        private final Row removed = new Row(MAX_STEPS + 1);
        private boolean ratAllowed = false;
        private boolean unitsKept = false;
        private int verdict = NONE;
        private int failedStep = NONE;
        private int conflictStep = NONE;
        private int byRup = 0;
        private int byRat = 0;

        Judge(Clauses clauses) {
            this.clauses = clauses;
            propagation = new Propagation(clauses);
        }

        void forget() {
            propagation.forget();
            hints.clear();
            removed.fill(0);
            verdict = NONE;
            failedStep = NONE;
            conflictStep = NONE;
            byRup = 0;
            byRat = 0;
        }

        void begin(boolean rat, boolean units, int fuel) {
            forget();
            ratAllowed = rat;
            unitsKept = units;
            propagation.begin(fuel);
        }

        /** Up to a conflict from nothing; backwards, the additions are weighed later. */
        void goForwards(boolean weighing) {
            lookFromNothing(0);
            int steps = clauses.steps();
            for (int i = 1; i <= steps && verdict == NONE; i++) {
                int number = clauses.numberOfStep(i);
                if (number == 0) {
                    remove(i);
                } else if (!weighing || holds(i, number)) {
                    propagation.setActive(number, true);
                }
                if (verdict == NONE) {
                    lookFromNothing(i);
                }
            }
            if (verdict == NONE) {
                verdict = INVALID;
            }
        }

        /** From the conflict, if there was one, back to the first step. */
        void goBack() {
            for (int i = conflictStep; i >= 1 && verdict == VERIFIED; i--) {
                int number = clauses.numberOfStep(i);
                if (number == 0) {
                    putBack(i);
                } else {
                    propagation.setActive(number, false);
                    if (propagation.isMarked(number)) {
                        holds(i, number);
                    }
                }
            }
        }

        int verdict() {
            return verdict;
        }

        int failedStep() {
            return failedStep;
        }

        int conflictStep() {
            return conflictStep;
        }

        int fuelLeft() {
            return propagation.fuelLeft();
        }

        int heldByRup() {
            return byRup;
        }

        int heldByRat() {
            return byRat;
        }

        boolean isMarked(int k) {
            return propagation.isMarked(k);
        }

        int markedBetween(int first, int last) {
            int marks = 0;
            for (int k = first; k <= last; k++) {
                marks += isMarked(k) ? 1 : 0;
            }
            return marks;
        }

        int hintOf(int k, int j) {
            return hints.at(k, j);
        }

        /** Without a weighing nothing is marked or removed, and so none of the steps stays. */
        int lastStepWeighed() {
            return conflictStep == NONE ? clauses.steps() : conflictStep;
        }

        /**
         * A deletion of a formula's clause stays even if that is not marked: a lemma may hold by RAT
         * only without it.
         */
        boolean staysInProof(int i) {
            int number = clauses.numberOfStep(i);
            if (number != 0) {
                return isMarked(number);
            }
            int gone = removed.at(i);
            return gone != 0 && (gone <= clauses.ofFormula() || isMarked(gone));
        }

        private void lookFromNothing(int step) {
            propagation.restart();
            int end = propagation.run();
            if (end == Propagation.OUT) {
                verdict = OUT_OF_FUEL;
                failedStep = 0;
            } else if (end == Propagation.CONFLICT) {
                verdict = VERIFIED;
                conflictStep = step;
                hints.open(0);
                propagation.gatherUsed();
                keepUsed(0);
            }
        }

        /** Whether the addition of a step holds; if not, that is the end. */
        private boolean holds(int step, int number) {
            hints.open(number);
            propagation.restart();
            propagation.assumeOpposites(number, 0);
            int end = propagation.run();
            if (end == Propagation.CONFLICT) {
                propagation.gatherUsed();
                keepUsed(number);
                byRup++;
                return true;
            }
            if (end == Propagation.QUIET && ratAllowed && clauses.size(number) > 0) {
                end = weighPartners(number);
                if (end == Propagation.CONFLICT) {
                    byRat++;
                    return true;
                }
            }
            hints.drop(number);
            failedStep = step;
            verdict = end == Propagation.OUT ? OUT_OF_FUEL : INVALID;
            return false;
        }

        /** CONFLICT if it conflicts with each clause in which the other sign of the first literal stands. */
        private int weighPartners(int number) {
            int opposite = -clauses.literal(number, 0);
            int last = clauses.endOfUses(opposite);
            for (int use = clauses.firstUse(opposite); use < last; use++) {
                int partner = clauses.user(use);
                if (propagation.isActive(partner)) {
                    propagation.restart();
                    propagation.assumeOpposites(number, 0);
                    propagation.assumeOpposites(partner, opposite);
                    int end = propagation.run();
                    if (end != Propagation.CONFLICT) {
                        return end;
                    }
                    hints.add(number, -partner);
                    propagation.gatherUsed();
                    keepUsed(number);
                    propagation.mark(partner);
                }
            }
            return Propagation.CONFLICT;
        }

        private void keepUsed(int number) {
            int uses = propagation.usedCount();
            for (int i = 0; i < uses; i++) {
                int k = propagation.usedAt(i);
                propagation.mark(k);
                hints.add(number, k);
            }
        }

        /** The latest run was the one from nothing behind the step ahead: its reasons are the units. */
        private void remove(int step) {
            for (int k = clauses.inAll(); k >= 1; k--) {
                if (propagation.isActive(k) && clauses.isAsStep(k, step)) {
                    if (!unitsKept || !propagation.isReason(k)) {
                        propagation.setActive(k, false);
                        removed.put(step, k);
                    }
                    return;
                }
            }
        }

        private void putBack(int step) {
            int gone = removed.at(step);
            if (gone != 0) {
                propagation.setActive(gone, true);
            }
        }
    }
}
