import java.util.NoSuchElementException;

/**
 * Each sentence of the document that names a boundary has a test of its own here: at the boundary
 * and one step to each side of it; behind a refused call also that what stays, stays. All answers
 * were worked out by hand. An object gets no more than the 512 calls that are promised.
 */
public final class BoundaryTests {
    private static final int NONE = -1;
    private static final int ARGUMENT = -1001;
    private static final int NO_ELEMENT = -1002;
    private static final int OTHER = -1003;
    private static final int LEAST = Integer.MIN_VALUE;
    private static final int GREATEST = Integer.MAX_VALUE;
    private static final int MANY = 20000;

    private static final String SQUARE = "p cnf 2 4\n1 2 0\n1 -2 0\n-1 2 0\n-1 -2 0\n";

    private static int wrong = 0;
    private static int asked = 0;

    private interface Call {
        int on();
    }

    private static int answer(Call call) {
        try {
            return call.on();
        } catch (IllegalArgumentException e) {
            return e.getClass() == IllegalArgumentException.class ? ARGUMENT : OTHER;
        } catch (NoSuchElementException e) {
            return e.getClass() == NoSuchElementException.class ? NO_ELEMENT : OTHER;
        } catch (RuntimeException e) {
            return OTHER;
        }
    }

    private static void due(String what, int want, Call call) {
        int got = answer(call);
        asked++;
        if (got != want) {
            wrong++;
            System.out.println(shown(what) + " answered " + got + ", due is " + want);
        }
    }

    private static void alike(String what, String want, String got) {
        asked++;
        if (!got.equals(want)) {
            wrong++;
            System.out.println(shown(what) + ": " + shown(got) + ", due is " + shown(want));
        }
    }

    private static String shown(String text) {
        StringBuilder plain = new StringBuilder();
        for (char c : text.toCharArray()) {
            plain.append(c >= 32 && c < 127 ? "" + c : "<" + (int) c + ">");
        }
        return plain.length() <= 300 ? plain.toString() : plain.substring(0, 300) + " ..";
    }

    private static String times(String part, int many) {
        return part.repeat(many);
    }

    private static int word(String text, int place) {
        int value = 0;
        for (int i = place; i < place + 4; i++) {
            value = value << 8 | (i < text.length() ? text.charAt(i) & 255 : ' ');
        }
        return value;
    }

    private static int feedAt(ClauseCourt x, String text, int i) {
        return x.feed(word(text, i), word(text, i + 4), word(text, i + 8), word(text, i + 12), word(text, i + 16));
    }

    private static void feed(ClauseCourt x, String text) {
        for (int i = 0; i < text.length(); i += 20) {
            feedAt(x, text, i);
        }
    }

    private static int formula(ClauseCourt x, String text) {
        feed(x, text);
        return x.formula(text.length());
    }

    private static int proof(ClauseCourt x, String text, boolean bytes) {
        feed(x, text);
        return x.proof(text.length(), bytes);
    }

    private static ClauseCourt court(String formula, String proof) {
        ClauseCourt x = new ClauseCourt();
        due("formula " + formula, 0, () -> formula(x, formula));
        due("proof " + proof, 0, () -> proof(x, proof, false));
        return x;
    }

    private static String counts(ClauseCourt x, int from, int to) {
        StringBuilder row = new StringBuilder();
        for (int what = from; what <= to; what++) {
            row.append(row.length() == 0 ? "" : " ").append(x.count(what));
        }
        return row.toString();
    }

    private static String clause(ClauseCourt x, int k) {
        StringBuilder row = new StringBuilder();
        int size = x.clause(k, 1);
        for (int j = 0; j < size; j++) {
            row.append(x.clause(k, 2 + j)).append(' ');
        }
        return row.append(x.clause(k, 2 + size)).toString();
    }

    private static String step(ClauseCourt x, int i) {
        StringBuilder row = new StringBuilder(x.step(i, 0) == 1 ? "d " : "");
        int size = x.step(i, 2);
        for (int j = 0; j < size; j++) {
            row.append(x.step(i, 3 + j)).append(' ');
        }
        return row.append(x.step(i, 3 + size)).toString();
    }

    private static String clauses(ClauseCourt x, int from, int to) {
        StringBuilder rows = new StringBuilder();
        for (int k = from; k <= to; k++) {
            rows.append(k == from ? "" : ", ").append(clause(x, k));
        }
        return rows.toString();
    }

    private static String steps(ClauseCourt x) {
        StringBuilder rows = new StringBuilder();
        int many = x.count(9);
        for (int i = 1; i <= many; i++) {
            rows.append(i == 1 ? "" : ", ").append(step(x, i));
        }
        return rows.toString();
    }

    private static String marks(ClauseCourt x, int many) {
        StringBuilder row = new StringBuilder();
        for (int k = 1; k <= many; k++) {
            row.append(x.clause(k, 0));
        }
        return row.toString();
    }

    /** Up to the first 0, which no hint is. */
    private static String hints(ClauseCourt x, int k) {
        StringBuilder row = new StringBuilder();
        for (int j = 0; x.hint(k, j) != 0; j++) {
            row.append(row.length() == 0 ? "" : " ").append(x.hint(k, j));
        }
        return row.toString();
    }

    private static String out(ClauseCourt x) {
        StringBuilder text = new StringBuilder();
        for (int k = 0; answer(() -> x.out(text.length())) >= 0; k++) {
            text.append((char) x.out(k));
        }
        return text.toString();
    }

    private static String shorter(ClauseCourt x) {
        int length = x.shorter();
        String text = out(x);
        return length == text.length() ? text : length + " bytes: " + text;
    }

    /** What can be asked of an object but its tape and its fault. */
    private static String court(ClauseCourt x) {
        StringBuilder all = new StringBuilder(counts(x, 0, 10)).append("; ");
        int clauses = x.count(8);
        for (int i = 1; i <= x.count(9); i++) {
            clauses += 1 - x.step(i, 0);
        }
        all.append(clauses(x, 1, clauses)).append("; ").append(marks(x, clauses)).append("; ").append(steps(x));
        for (int k = 0; k <= clauses; k++) {
            all.append("; ").append(hints(x, k));
        }
        return all.append("; ").append(out(x)).toString();
    }

    private static String whole(ClauseCourt x) {
        return court(x) + "; " + x.count(11) + " " + x.fault(0) + " " + x.fault(1);
    }

    /** Each of the calls is refused by that exception, and nothing changes. */
    private static void refused(String what, ClauseCourt x, int exception, Call... calls) {
        String before = whole(x);
        for (int i = 0; i < calls.length; i++) {
            due(what + ", refused call " + i, exception, calls[i]);
        }
        alike(what + ": nothing changes", before, whole(x));
    }

    /** A court in which everything is in use: six clauses, a weighing, an OUT, a fault, and a tape. */
    private static ClauseCourt busyCourt() {
        ClauseCourt x = court(SQUARE, "1 0\n0\n");
        due("busy: weigh", 0, () -> x.weigh(true, true, false, 100));
        alike("busy: shorter", "1 0\n", shorter(x));
        due("busy: a fault", 2, () -> proof(x, "1 151 0", false));
        feed(x, "p cnf 1 1 1 0");
        alike("busy: all", "0 -1 1 96 4 1 1 0 4 2 2; 1 2 0, 1 -2 0, -1 2 0, -1 -2 0, 1 0, 0; 111110; 1 0, 0; "
                + "5 3 4; ; ; ; ; 1 2; ; 1 0\n; 20 2 2", whole(x));
        return x;
    }

    private static void formulaFault(String text, int kind, int place) {
        ClauseCourt x = new ClauseCourt();
        due("formula \"" + text + "\"", kind, () -> formula(x, text));
        due("formula \"" + text + "\": its fault", kind, () -> x.fault(0));
        due("formula \"" + text + "\": its place", place, () -> x.fault(1));
    }

    private static void formulaIs(String text, int v, String clauses) {
        ClauseCourt x = new ClauseCourt();
        due("formula \"" + text + "\"", 0, () -> formula(x, text));
        due("formula \"" + text + "\": its place", NONE, () -> x.fault(1));
        due("formula \"" + text + "\": V", v, () -> x.count(10));
        alike("formula \"" + text + "\"", clauses, clauses(x, 1, x.count(8)));
    }

    private static void proofFault(String text, boolean bytes, int kind, int place) {
        ClauseCourt x = new ClauseCourt();
        String what = (bytes ? "bytes \"" : "proof \"") + text + "\"";
        due(what, kind, () -> proof(x, text, bytes));
        due(what + ": its fault", kind, () -> x.fault(0));
        due(what + ": its place", place, () -> x.fault(1));
    }

    private static void textFault(String text, int kind, int place) {
        proofFault(text, false, kind, place);
    }

    private static void byteFault(String text, int kind, int place) {
        proofFault(text, true, kind, place);
    }

    private static void proofIs(String text, boolean bytes, String steps) {
        ClauseCourt x = new ClauseCourt();
        String what = (bytes ? "bytes \"" : "proof \"") + text + "\"";
        due(what, 0, () -> proof(x, text, bytes));
        due(what + ": its place", NONE, () -> x.fault(1));
        alike(what, steps, steps(x));
    }

    private static void textIs(String text, String steps) {
        proofIs(text, false, steps);
    }

    private static void bytesAre(String text, String steps) {
        proofIs(text, true, steps);
    }

    // ---- Terms, 1. TEXTS

    /** LITERALS are numbers 1 .. 150 and - 1 .. - 150. */
    private static void literalsOfTexts() {
        formulaIs("p cnf 150 1 149 150 -149 -150 1 -1 0", 150, "149 150 -149 -150 1 -1 0");
        formulaFault("p cnf 150 1 150 151 0", 2, 16);
        formulaFault("p cnf 150 1 -150 -151 0", 2, 17);
        textIs("149 150 -149 -150 1 -1 0", "149 150 -149 -150 1 -1 0");
        textFault("150 151 0", 2, 4);
        textFault("-150 -151 0", 2, 5);
        textFault("d 150 151 0", 2, 6);
        textFault("d -150 -151 0", 2, 7);
    }

    /** A CLAUSE is a row of LITERALS, each one that stands in it again being left out. */
    private static void literalsAgain() {
        formulaIs("p cnf 3 3 1 1 0 1 2 1 -1 2 -1 3 0 1 0", 3, "1 0, 1 2 -1 3 0, 1 0");
        textIs("1 1 0 1 2 1 -1 2 -1 3 0 d 3 3 2 3 0 d 3 0", "1 0, 1 2 -1 3 0, d 3 2 0, d 3 0");
        bytesAre("a\2\2\0d\u00ac\2\u00ac\2\u00ad\2\u00ac\2\0a\2\0", "1 0, d 150 -150 0, 1 0");
    }

    /** LINES end with a byte 10 (or the text's end); a LINE whose first byte is c counts for nothing. */
    private static void lines() {
        formulaIs("cp cnf 9 9\np cnf 1 1\nc\n1 0\nc 1 0", 1, "1 0");
        formulaIs("c\nc\n\np cnf 1 1 1 0\n", 1, "1 0");
        formulaIs("p cnf 1 1 1\n\nc 1 x\r1\n0", 1, "1 0");
        formulaFault("c\rp cnf 0 0", 1, 11);
        formulaFault("p cnf 0 0\n c", 1, 11);
        formulaFault("p cnf 0 0\r\tc", 1, 11);
        formulaFault("p cnf 1 1 1 c\n0", 1, 12);
        formulaFault("p\ncnf 0 0", 1, 9);
        formulaFault("p\nC\ncnf 0 0", 1, 2);
        formulaFault("p cnf 0 0\nd", 1, 10);
        formulaFault("p cnf 0 0\nb", 1, 10);
        formulaIs("p\n cnf 0 0", 0, "");
        textIs("c 1 0\n1\nc2\n3 0\nc", "1 3 0");
        textFault("1 3\nc", 1, 5);
        textFault("1 c 0", 1, 2);
        textFault(" c\n", 1, 1);
        textFault("1 0 \n c", 1, 6);
    }

    /** TOKENS: what stands between blanks (32, 9, 13) and the LINES' ends. */
    private static void blanks() {
        formulaIs("\t\r p\tcnf\r1\n1  1\r\n\t0 \t\r\n", 1, "1 0");
        textIs("d\t1\r2\n3 0", "d 1 2 3 0");
        for (int value = 0; value < 256; value++) {
            boolean blank = value == 32 || value == 9 || value == 13 || value == 10;
            boolean digit = value >= '0' && value <= '9';
            char c = (char) value;
            if (blank) {
                textIs("1" + c + "2 0", "1 2 0");
                formulaIs("p cnf" + c + "12 0", 12, "");
            } else if (!digit) {
                textFault("3 1" + c + "2 0", 1, 2);
                formulaFault("p cnf" + c + "12 0", 1, 2);
                formulaFault("p cnf 1" + c + "2 0", 1, 6);
            }
        }
    }

    /** p, cnf, two NUMBERS (on any LINES). */
    private static void headings() {
        formulaIs("p cnf 0 0", 0, "");
        formulaIs("p\n\n cnf\n\n0\n\n0\n\n", 0, "");
        formulaFault("", 1, 0);
        formulaFault(" \n", 1, 2);
        formulaFault("p", 1, 1);
        formulaFault("p ", 1, 2);
        formulaFault("p cnf", 1, 5);
        formulaFault("p cnf 0", 1, 7);
        formulaFault("p cnf 0 ", 1, 8);
        formulaFault("q cnf 0 0", 1, 0);
        formulaFault("o cnf 0 0", 1, 0);
        formulaFault("pp cnf 0 0", 1, 0);
        formulaFault("p p cnf 0 0", 1, 2);
        formulaFault("cnf 0 0", 1, 7);
        formulaFault("p cn 0 0", 1, 2);
        formulaFault("p cnff 0 0", 1, 2);
        formulaFault("p cnf0 0", 1, 2);
        formulaFault("p bnf 0 0", 1, 2);
        formulaFault("p cng 0 0", 1, 2);
        formulaFault("p CNF 0 0", 1, 2);
        formulaFault("p cnf cnf 0", 1, 6);
        formulaFault("0 0", 1, 0);
    }

    /** V (0 .. 150), C (0 .. 300). */
    private static void boundsOfTheHeading() {
        formulaFault("p cnf -1 0", 2, 6);
        formulaIs("p cnf 0 0", 0, "");
        formulaIs("p cnf 1 0", 1, "");
        formulaIs("p cnf 149 0", 149, "");
        formulaIs("p cnf 150 0", 150, "");
        formulaFault("p cnf 151 0", 2, 6);
        formulaFault("p cnf 999999 0", 2, 6);
        formulaFault("p cnf -150 0", 2, 6);
        formulaFault("p cnf 0 -1", 2, 8);
        formulaIs("p cnf 0 1 0", 0, "0");
        for (int c = 299; c <= 300; c++) {
            int many = c;
            ClauseCourt x = new ClauseCourt();
            due("C " + c, 0, () -> formula(x, "p cnf 0 " + many + " " + times("0 ", many)));
            due("C " + c + ": clauses", c, () -> x.count(8));
            due("C " + c + ": the last one", 0, () -> x.clause(many, 1));
            due("C " + c + ": none behind it", NO_ELEMENT, () -> x.clause(many + 1, 1));
        }
        formulaFault("p cnf 0 301 " + times("0 ", 301), 2, 8);
        formulaFault("p cnf 0 999999", 2, 8);
        formulaFault("p cnf 0 -300", 2, 8);
    }

    /** Then C CLAUSES: LITERALS up to V, and a 0. */
    private static void rowsOfTheFormula() {
        formulaIs("p cnf 2 2 1 0 2 0", 2, "1 0, 2 0");
        formulaFault("p cnf 2 2 1 0", 1, 13);
        formulaFault("p cnf 2 2 1 0 2", 1, 15);
        formulaFault("p cnf 2 2 1 0 2 0 0", 1, 18);
        formulaFault("p cnf 2 2 1 0 2 0 1", 1, 18);
        formulaFault("p cnf 2 2 1 0 2 0 3", 1, 18);
        formulaFault("p cnf 2 2 1 0 2 0 d", 1, 18);
        formulaFault("p cnf 2 0 1 0", 1, 10);
        formulaFault("p cnf 2 1", 1, 9);
        formulaIs("p cnf 5 1 4 5 -4 -5 0", 5, "4 5 -4 -5 0");
        formulaFault("p cnf 5 1 4 5 6 0", 2, 14);
        formulaFault("p cnf 5 1 4 5 -6 0", 2, 14);
        formulaIs("p cnf 0 1 0", 0, "0");
        formulaFault("p cnf 0 1 1 0", 2, 10);
        formulaFault("p cnf 0 1 -1 0", 2, 10);
        formulaIs("p cnf 149 1 149 -149 0", 149, "149 -149 0");
        formulaFault("p cnf 149 1 150 0", 2, 12);
    }

    /** NUMBERS: digits, 1 to 6 of them, perhaps - ahead. */
    private static void numbers() {
        textIs("1 01 001 0001 00001 000002 -000003 0", "1 2 -3 0");
        textFault("1 0000002 0", 1, 2);
        textFault("1 -0000002 0", 1, 2);
        textFault("1 0 0000000", 1, 4);
        textIs("1 000000", "1 0");
        textIs("1 -0", "1 0");
        textFault("1 - 0", 1, 2);
        textFault("1 --2 0", 1, 2);
        textFault("1 2- 0", 1, 2);
        textFault("1 +2 0", 1, 2);
        textFault("1 2.0 0", 1, 2);
        textFault("1 /2 0", 1, 2);
        textFault("1 2: 0", 1, 2);
        textFault("1 2/ 0", 1, 2);
        textFault("1 :2 0", 1, 2);
        textFault("1 999999 0", 2, 2);
        textFault("1 -999999 0", 2, 2);
        textFault("1 1000000 0", 1, 2);
        textFault("1 -1000000 0", 1, 2);
        formulaIs("p cnf 000001 000001 000001 0", 1, "1 0");
        formulaIs("p cnf -0 -000000", 0, "");
        formulaFault("p cnf 0000001 1 1 0", 1, 6);
        formulaFault("p cnf 1 0000001 1 0", 1, 8);
        formulaFault("p cnf 1 1 0000001 0", 1, 10);
        formulaFault("p cnf - 1 1 0", 1, 6);
        formulaFault("p cnf 1 1 4294967297 0", 1, 10);
    }

    /** A PROOF as text: STEPS: perhaps d, LITERALS, a 0. */
    private static void stepsAsText() {
        textIs("", "");
        textIs(" \n\r\t", "");
        textIs("0", "0");
        textIs("d 0", "d 0");
        textFault("1 0d 0", 1, 2);
        textIs("1 0 d 1 0 1 0\nd\n-1\n0", "1 0, d 1 0, 1 0, d -1 0");
        textFault("d", 1, 1);
        textFault("d ", 1, 2);
        textFault("1", 1, 1);
        textFault("1 0 d 1", 1, 7);
        textFault("d d 0", 1, 2);
        textFault("d 1 d 0", 1, 4);
        textFault("1 d 0", 1, 2);
        textFault("dd 1 0", 1, 0);
        textFault("d1 0", 1, 0);
        textFault("e 1 0", 1, 0);
        textFault("a 1 0", 1, 0);
        textFault("p cnf 0 0", 1, 0);
    }

    /** As bytes: STEPS: 97 (ADDITION) or 100 (DELETION); LITERALS; a byte 0. */
    private static void stepsAsBytes() {
        bytesAre("", "");
        bytesAre("a\0", "0");
        bytesAre("d\0", "d 0");
        bytesAre("a\2\0d\2\0a\3\0", "1 0, d 1 0, -1 0");
        for (int value = 0; value < 256; value++) {
            if (value != 97 && value != 100) {
                byteFault((char) value + "\0", 1, 0);
                byteFault("a\2\0" + (char) value, 1, 3);
            }
        }
        // Inside a step 97 and 100 are literals like others: - 48 and 50.
        bytesAre("aad\0dda\0", "-48 50 0, d 50 -48 0");
        byteFault("a", 1, 1);
        byteFault("d", 1, 1);
        byteFault("a\2", 1, 2);
        byteFault("a\2\0d\2", 1, 5);
    }

    /** Each l as u = 2 l, or - 2 l + 1 if it is below 0; a u below 2, above 301. */
    private static void literalsAsBytes() {
        for (int u = 1; u <= 400; u++) {
            String bytes = "a\2" + (u < 128 ? "" + (char) u : "" + (char) (u % 128 + 128) + (char) (u / 128)) + "\0";
            if (u < 2 || u > 301) {
                byteFault(bytes, 2, 2);
            } else {
                int literal = u % 2 == 0 ? u / 2 : -(u / 2);
                bytesAre(bytes, literal == 1 ? "1 0" : "1 " + literal + " 0");
            }
        }
        byteFault("a\2\u00ff\u007f\0", 2, 2);
        byteFault("d\1", 2, 1);
    }

    /** One or two bytes; two bytes with a last one of 0, or of 128 and more, are none: at the first one. */
    private static void bytesOfALiteral() {
        bytesAre("a\u007f\0", "-63 0");
        bytesAre("a\u0080\1\0", "64 0");
        byteFault("a\2\u0080\0\0", 1, 2);
        byteFault("a\2\u0082\0\0", 1, 2);
        byteFault("a\2\u00ff\0", 1, 2);
        byteFault("a\2\u0082\u0080\0", 1, 2);
        byteFault("a\2\u0082\u0080", 1, 2);
        byteFault("a\2\u0082\u0081\1\0", 1, 2);
        byteFault("a\2\u0082\u00ff\0", 1, 2);
        byteFault("a\2\u0082\u007f\0", 2, 2);
        bytesAre("a\2\u0082\1\0", "1 65 0");
        byteFault("a\2\u0082", 1, 3);
        byteFault("a\u0080", 1, 2);
        byteFault("a\u00ff", 1, 2);
    }

    /** FAULTS, the first along the text. */
    private static void firstFault() {
        formulaFault("p cnf 151 x", 2, 6);
        formulaFault("p cnf x 301", 1, 6);
        formulaFault("p cnf 1 1 2 x", 2, 10);
        formulaFault("p cnf 1 1 x 2", 1, 10);
        formulaFault("p cnf 1 1 " + times("1 ", 41) + "x", 3, 90);
        formulaFault("p cnf 1 1 " + times("1 ", 41), 3, 90);
        textFault("151 x", 2, 0);
        textFault("x 151", 1, 0);
        textFault("151", 2, 0);
        textFault(times("1 ", 41) + "151", 3, 80);
        byteFault("a\1\u0080\0b", 2, 1);
        byteFault("a\u0080\0\1\0b", 1, 1);
        byteFault("a" + times("\2", 41) + "\1", 3, 41);
    }

    /** A text that ends too soon: at its length, whatever stands on the tape behind it. */
    private static void endsOfTexts() {
        int[] formulaPlaces = {0, 1, 2, 2, 2, 5, 6, 7, 8, 9, 10, 11, 12, NONE, NONE, 14, 14};
        for (int n = 0; n < formulaPlaces.length; n++) {
            int length = n;
            ClauseCourt x = new ClauseCourt();
            feed(x, "p cnf 1 1 1 0 0");
            due("formula(" + n + ")", formulaPlaces[n] == NONE ? 0 : 1, () -> x.formula(length));
            due("formula(" + n + "): place", formulaPlaces[n], () -> x.fault(1));
        }
        cutProofs("1 0 -2 0", false, NONE, 1, 2, NONE, NONE, 4, 6, 7, NONE);
        cutProofs("a\0a\u0080\1\0", true, NONE, 1, NONE, 3, 4, 5, NONE);
    }

    private static void cutProofs(String text, boolean bytes, int... places) {
        for (int n = 0; n < places.length; n++) {
            int length = n;
            ClauseCourt x = new ClauseCourt();
            feed(x, text);
            due("proof(" + n + ")", places[n] == NONE ? 0 : 1, () -> x.proof(length, bytes));
            due("proof(" + n + "): place", places[n], () -> x.fault(1));
        }
    }

    /** 3 a CLAUSE's 41st LITERAL (as they stand, again ones too). */
    private static void literalsOfARow() {
        for (int many = 39; many <= 42; many++) {
            boolean good = many <= 40;
            StringBuilder other = new StringBuilder();
            StringBuilder bytes = new StringBuilder();
            for (int l = 1; l <= many; l++) {
                other.append(l + 9).append(' ');
                bytes.append((char) (2 * l));
            }
            String again = times("1 ", many);
            formulaFault("p cnf 99 1 " + other + "0", good ? 0 : 3, good ? NONE : 11 + 3 * 40);
            formulaFault("p cnf 99 1 " + again + "0", good ? 0 : 3, good ? NONE : 11 + 2 * 40);
            formulaFault("p cnf 99 2 0 " + again + "0", good ? 0 : 3, good ? NONE : 13 + 2 * 40);
            textFault(other + "0", good ? 0 : 3, good ? NONE : 3 * 40);
            textFault(again + "0", good ? 0 : 3, good ? NONE : 2 * 40);
            textFault("d " + again + "0", good ? 0 : 3, good ? NONE : 2 + 2 * 40);
            byteFault("a" + bytes + "\0", good ? 0 : 3, good ? NONE : 41);
            byteFault("d" + times("\2", many) + "\0", good ? 0 : 3, good ? NONE : 41);
            byteFault("a" + times("\u0080\1", many) + "\0", good ? 0 : 3, good ? NONE : 81);
        }
        // Each row has forty of its own.
        formulaFault("p cnf 1 3 " + times(times("1 ", 40) + "0 ", 3), 0, NONE);
        textFault(times(times("1 ", 40) + "0 d ", 2) + times("1 ", 40) + "0", 0, NONE);
        byteFault(times("a" + times("\2", 40) + "\0", 3), 0, NONE);
        // All forty are kept.
        StringBuilder row = new StringBuilder();
        for (int l = 111; l <= 150; l++) {
            row.append(-l).append(' ');
        }
        formulaIs("p cnf 150 1 " + row + "0", 150, row + "0");
        textIs(row + "0 d " + row + "0", row + "0, d " + row + "0");
    }

    /** The 2001st LITERAL of the text (as they stand, again ones too). */
    private static void literalsOfAText() {
        String rows = times(times("1 ", 40) + "0 ", 49);
        for (int last = 39; last <= 40; last++) {
            String text = rows + times("1 ", last) + "0 ";
            int full = text.length() + 2 * (40 - last);
            String more = times("1 ", 40 - last);
            formulaFault("p cnf 1 51 " + text + more + "0", 0, NONE);
            formulaFault("p cnf 1 51 " + text + more + "1 0", 3, 11 + full);
            formulaFault("p cnf 1 52 " + text + more + "0 1 0", 3, 11 + full + 2);
            textFault(text + more + "0", 0, NONE);
            textFault(text + more + "1 0", 3, full);
            textFault(text + "d " + more + "0 1 0", 3, full + 4);
        }
        String bytes = times("a" + times("\2", 40) + "\0", 49);
        for (int last = 39; last <= 40; last++) {
            String text = bytes + "d" + times("\2", last) + "\0a" + times("\2", 40 - last);
            byteFault(text + "\0", 0, NONE);
            byteFault(text + "\2\0", 3, text.length());
            byteFault(text + "\0a\u0082\1\0", 3, text.length() + 2);
        }
    }

    private static String row(int from, int to) {
        StringBuilder row = new StringBuilder();
        for (int l = from; l <= to; l++) {
            row.append(l).append(' ');
        }
        return row.append("0 ").toString();
    }

    private static String byteRow(int from, int to) {
        StringBuilder row = new StringBuilder("a");
        for (int l = from; l <= to; l++) {
            row.append((char) (2 * l));
        }
        return row.append('\0').toString();
    }

    /** The bound is each text's own: a FORMULA of 2,000 and a PROOF of 2,000 go together. */
    private static void fullTextsTogether() {
        ClauseCourt x = new ClauseCourt();
        due("a full formula", 0, () -> formula(x, "p cnf 150 53 150 0 1 2 0 1 -2 0 " + times(row(3, 42), 49) + row(3, 37)));
        due("a full proof", 0, () -> proof(x, times(byteRow(3, 42), 49) + byteRow(3, 40) + "a\u00ad\2\3\0", true));
        alike("the last clauses", "38 3 40 0", x.clause(103, 1) + " " + x.clause(103, 2) + " " + x.clause(103, 39) + " "
                + x.clause(103, 40));
        alike("the very last", "-150 -1 0", clause(x, 104));
        due("the formula's last literal", 37, () -> x.clause(53, 36));
        // 150 is true from nothing each time; with the last step - 1 and 2 as well, and 3 conflicts.
        weighed(x, "b", MANY, "1 51 51 19944 3 1 0 0");
        alike("the conflict", "1 104 2 3", hints(x, 0));
    }

    /** The 301st STEP (at its first TOKEN or byte). Of one TOKEN the least. */
    private static void stepsOfAText() {
        for (int many = 299; many <= 300; many++) {
            String text = times("0 ", many);
            ClauseCourt x = new ClauseCourt();
            int due = many;
            due(many + " steps", 0, () -> proof(x, text, false));
            due(many + " steps: count", due, () -> x.count(9));
            due(many + " steps, as bytes", 0, () -> proof(x, times("d\0", due), true));
            due(many + " steps, as bytes: count", due, () -> x.count(9));
        }
        textFault(times("0 ", 301), 3, 600);
        textFault(times("0 ", 300) + "d 0", 3, 600);
        textFault(times("0 ", 300) + "d", 3, 600);
        textFault(times("0 ", 300) + "d x", 3, 600);
        textFault(times("0 ", 300) + "\n\n 1", 3, 603);
        textFault(times("0 ", 300) + "150", 3, 600);
        textFault(times("0 ", 300) + "151", 2, 600);
        textFault(times("0 ", 300) + "-151", 2, 600);
        textFault(times("0 ", 300) + "x", 1, 600);
        textFault(times("0 ", 300) + "0000001", 1, 600);
        textFault(times("0 ", 300) + "dd", 1, 600);
        textFault(times("0 ", 300) + "\nc x\n ", 0, NONE);
        textFault(times("d 0 ", 300), 0, NONE);
        textFault(times("d 0 ", 301), 3, 1200);
        textFault(times("0 ", 299) + "1", 1, 599);
        byteFault(times("a\0", 301), 3, 600);
        byteFault(times("a\0", 300) + "d", 3, 600);
        byteFault(times("a\0", 300) + "b", 1, 600);
        byteFault(times("a\0", 300) + "\0", 1, 600);
        byteFault(times("a\0", 299) + "a", 1, 599);
        // A formula has no steps: its 301st clause is what C refuses.
        formulaFault("p cnf 0 300 " + times("0 ", 301), 1, 12 + 600);
    }

    /** Of one TOKEN the least, where a literal is one too many as well. */
    private static void leastFault() {
        String head = "p cnf 1 1 " + times("1 ", 40);
        formulaFault(head + "1 0", 3, 90);
        formulaFault(head + "2 0", 2, 90);
        formulaFault(head + "-2 0", 2, 90);
        formulaFault(head + "x 0", 1, 90);
        formulaFault(head, 1, 90);
        textFault(times("1 ", 40) + "150 0", 3, 80);
        textFault(times("1 ", 40) + "151 0", 2, 80);
        textFault(times("1 ", 40) + "d 0", 1, 80);
        textFault(times("1 ", 40), 1, 80);
        byteFault("a" + times("\2", 40) + "\2", 3, 41);
        byteFault("a" + times("\2", 40) + "\1", 2, 41);
        byteFault("a" + times("\2", 40) + "\u00ae\2", 2, 41);
        byteFault("a" + times("\2", 40) + "\u00ad\2", 3, 41);
        byteFault("a" + times("\2", 40) + "\u0082\0", 1, 41);
        byteFault("a" + times("\2", 40) + "\u0082\u0080", 1, 41);
        byteFault("a" + times("\2", 40), 1, 41);
        String full = times(times("1 ", 40) + "0 ", 50);
        textFault(full + "150 0", 3, full.length());
        textFault(full + "151 0", 2, full.length());
        textFault(full + "x 0", 1, full.length());
    }

    private static void texts() {
        literalsOfTexts();
        literalsAgain();
        lines();
        blanks();
        headings();
        boundsOfTheHeading();
        rowsOfTheFormula();
        numbers();
        stepsAsText();
        stepsAsBytes();
        literalsAsBytes();
        bytesOfALiteral();
        firstFault();
        endsOfTexts();
        literalsOfARow();
        literalsOfAText();
        fullTextsTogether();
        stepsOfAText();
        leastFault();
    }

    // ---- Terms, 2. PROPAGATION, and 3. WEIGHING

    private static final String LADDER = "p cnf 7 8\n1 2 3 0\n1 2 -3 0\n1 -2 4 7 0\n1 -2 4 -7 0\n"
            + "1 -4 6 0\n1 -4 -6 0\n-1 5 0\n-1 -5 0\n";
    private static final String LADDER_PROOF = "1 2 0\n4 1 0\nd 2 1 0\n1 0\n";

    // 5 is made to be the same as 3: its second lemma holds by RAT alone.
    private static final String NAMED = "p cnf 6 6\n1 2 0\n1 -2 0\n-1 3 4 0\n-1 3 -4 0\n-3 6 0\n-3 -6 0\n";
    private static final String NAMED_PROOF = "5 -3 0\n-5 3 0\n1 0\n5 0\n";

    private static int weigh(ClauseCourt x, String how, int fuel) {
        return x.weigh(how.contains("b"), how.contains("r"), how.contains("u"), fuel);
    }

    /** How: b backwards, r by RAT as well, u units are kept. The counts are 0 to 7. */
    private static void weighed(ClauseCourt x, String how, int fuel, String counts) {
        String what = "weigh \"" + how + "\" with " + fuel;
        due(what, Integer.parseInt(counts.split(" ")[0]), () -> weigh(x, how, fuel));
        alike(what + ": counts", counts, counts(x, 0, 7));
    }

    /** CLAUSES are numbered from 1 on: those of the FORMULA, then, as they come, those of ADDITIONS. */
    private static void numbersOfClauses() {
        ClauseCourt x = court("p cnf 0 0", "1 0 d 1 0 2 0");
        alike("no formula", "1 0, 2 0", clauses(x, 1, 2));
        alike("their steps", "1 0 2", x.step(1, 1) + " " + x.step(2, 1) + " " + x.step(3, 1));
        ClauseCourt y = court("p cnf 3 2 3 0 -3 0", "d 3 0 1 0 d 1 0 2 0");
        alike("behind a formula", "3 0, -3 0, 1 0, 2 0", clauses(y, 1, 4));
        alike("its steps", "0 3 0 4", y.step(1, 1) + " " + y.step(2, 1) + " " + y.step(3, 1) + " " + y.step(4, 1));
        due("none behind them", NO_ELEMENT, () -> y.clause(5, 1));
    }

    /** If one is FALSE already it CONFLICTS, by no CLAUSE. */
    private static void falseAssumptions() {
        ClauseCourt x = court("p cnf 2 0", "1 -1 0");
        weighed(x, "", 0, "2 1 -1 0 0 0 0 0");
        weighed(x, "", 1, "1 -1 -1 0 0 0 1 0");
        weighed(x, "", 2, "1 -1 -1 1 0 0 1 0");
        alike("no hints", "", hints(x, 1));
        // Clause 1 is false by the first assumption, but the second one is ahead of it.
        ClauseCourt y = court("p cnf 2 1 1 0", "1 -1 0");
        weighed(y, "", 3, "1 -1 -1 0 0 0 1 0");
        alike("no clause", "00", marks(y, 2));
        alike("no hints either", "", hints(y, 2));
        ClauseCourt z = court("p cnf 2 0", "2 1 0");
        weighed(z, "", 2, "1 1 -1 0 0 0 0 0");
    }

    /** A LITERAL that becomes TRUE costs 1 of FUEL (one that is TRUE already nothing). */
    private static void trueAssumptions() {
        // With clause 1 the other sign of 2 is assumed again; then nothing follows.
        ClauseCourt x = court("p cnf 2 1 -1 2 0", "1 2 0");
        weighed(x, "r", 3, "2 1 -1 0 0 0 0 0");
        weighed(x, "r", 4, "1 1 -1 0 0 0 0 0");
        weighed(x, "r", 5, "1 1 -1 1 0 0 0 0");
        ClauseCourt y = court("p cnf 3 1 -1 3 0", "1 2 0");
        weighed(y, "r", 4, "2 1 -1 0 0 0 0 0");
        weighed(y, "r", 5, "1 1 -1 0 0 0 0 0");
    }

    /** Of whose LITERALS none is TRUE, and at most one isn't FALSE. */
    private static void clausesThatAct() {
        ClauseCourt none = court("p cnf 2 1 0", "");
        weighed(none, "", 0, "0 -1 0 0 1 0 0 0");
        alike("an empty clause", "1", hints(none, 0));
        ClauseCourt one = court("p cnf 2 1 1 0", "");
        weighed(one, "", 1, "1 -1 -1 0 0 0 0 0");
        weighed(one, "", 0, "2 0 -1 0 0 0 0 0");
        ClauseCourt two = court("p cnf 2 1 1 2 0", "");
        weighed(two, "", 0, "1 -1 -1 0 0 0 0 0");
        ClauseCourt isTrue = court("p cnf 2 3 1 0 1 2 0 1 -2 0", "");
        weighed(isTrue, "", 1, "1 -1 -1 0 0 0 0 0");
        ClauseCourt bothSigns = court("p cnf 2 2 2 0 1 -1 -2 0", "");
        weighed(bothSigns, "", 1, "1 -1 -1 0 0 0 0 0");
        ClauseCourt again = court("p cnf 2 2 1 1 0 -1 -1 0", "");
        weighed(again, "", 1, "0 -1 0 0 2 0 0 0");
        alike("a literal again", "1 2", hints(again, 0));
    }

    /** The first (MARKED ones ahead of others, by numbers). */
    private static void firstClause() {
        // Assumed 1: 2 by clause 1; then 3 by clause 2, which is ahead of the false clause 3.
        ClauseCourt x = court("p cnf 3 4 -1 2 0 -1 3 0 -2 0 -3 0", "-1 0");
        weighed(x, "", MANY, "1 -1 -1 19991 2 0 1 0");
        alike("by numbers", "1 3", hints(x, 5));
        alike("what is used", "10100", marks(x, 5));
        // The first lemma marks 3 and 4; for the second 3 is ahead of 1, for the third 1 of 2.
        ClauseCourt y = court("p cnf 5 4 -4 1 0 -4 2 0 -3 1 0 -1 -3 0", "-3 0 -4 -3 1 0 -4 1 2 0");
        weighed(y, "", MANY, "1 -1 -1 19988 3 0 3 0");
        alike("those marked", "3 4", hints(y, 5));
        alike("a marked one ahead", "3", hints(y, 6));
        alike("none marked is false", "1", hints(y, 7));
        // Nothing is marked when weighing begins: it is the same again.
        weighed(y, "", MANY, "1 -1 -1 19988 3 0 3 0");
        alike("again", "1", hints(y, 7));
    }

    /** USED are its CLAUSE and the REASON of each whose other sign stands in a CLAUSE that is USED. */
    private static void whatIsUsed() {
        // 1, 2, 3, 4 become true; the conflict needs 2 and 4, and 4 needs 3, but nothing needs 1.
        ClauseCourt x = court("p cnf 5 5 1 0 2 0 3 0 -3 4 0 -4 -2 0", "");
        weighed(x, "", 3, "2 0 -1 0 0 0 0 0");
        weighed(x, "", 4, "0 -1 0 0 4 0 0 0");
        alike("those used", "01111", marks(x, 5));
        alike("in the order of their literals", "2 3 4 5", hints(x, 0));
        // Assumed literals have no reason.
        ClauseCourt y = court("p cnf 3 2 1 2 3 0 1 2 -3 0", "2 1 0");
        weighed(y, "", 3, "1 -1 -1 0 2 0 1 0");
        alike("one reason", "1 2", hints(y, 3));
    }

    /** How far it came from that fuel on: count(1) and count(2) when it ran OUT. */
    private record Reach(int fuel, int failed, int conflict) {
    }

    /** With each fuel below total it is OUT, with total and one more it isn't. */
    private static void fuels(ClauseCourt x, String how, int total, String end, Reach... reaches) {
        for (int fuel = 0; fuel < total; fuel++) {
            int given = fuel;
            Reach reach = reaches[0];
            for (Reach each : reaches) {
                reach = each.fuel <= fuel ? each : reach;
            }
            due("weigh \"" + how + "\" with " + fuel, 2, () -> weigh(x, how, given));
            alike("weigh \"" + how + "\" with " + fuel, "2 " + reach.failed + " " + reach.conflict + " 0", counts(x, 0, 3));
        }
        for (int left = 0; left <= 1; left++) {
            int given = total + left;
            due("weigh \"" + how + "\" with " + given, end.charAt(0) - '0', () -> weigh(x, how, given));
            alike("weigh \"" + how + "\" with " + given, end + " " + left, counts(x, 0, 3));
        }
    }

    /** Where FUEL would be below 0, it is over: OUT: in each of the propagations. */
    private static void fuelsOfEachPropagation() {
        ClauseCourt x = court(LADDER, LADDER_PROOF);
        // Backwards: from nothing 2, then 3 for the last step, 4 for the second, 3 for the first.
        fuels(x, "b", 12, "0 -1 4", new Reach(0, 0, NONE), new Reach(2, 4, 4), new Reach(5, 2, 4), new Reach(9, 1, 4));
        fuels(x, "", 12, "0 -1 4", new Reach(0, 1, NONE), new Reach(3, 2, NONE), new Reach(7, 4, NONE),
                new Reach(10, 0, NONE));
        ClauseCourt y = court(NAMED, NAMED_PROOF);
        // Backwards: from nothing 1 and 4; the steps 4, 2, 4 (2 by RUP, 2 by RAT), 3.
        fuels(y, "br", 18, "0 -1 4", new Reach(0, 0, NONE), new Reach(5, 4, 4), new Reach(9, 3, 4),
                new Reach(11, 2, 4), new Reach(15, 1, 4));
        fuels(y, "r", 18, "0 -1 4", new Reach(0, 1, NONE), new Reach(3, 2, NONE), new Reach(7, 3, NONE),
                new Reach(9, 0, NONE), new Reach(10, 4, NONE), new Reach(14, 0, NONE));
        fuels(y, "b", 13, "1 2 4", new Reach(0, 0, NONE), new Reach(5, 4, 4), new Reach(9, 3, 4), new Reach(11, 2, 4));
        ClauseCourt z = court("p cnf 2 3 1 0 2 0 -1 -2 0", "1 0");
        fuels(z, "", 2, "0 -1 0", new Reach(0, 0, NONE));
        fuels(z, "b", 2, "0 -1 0", new Reach(0, 0, NONE));
    }

    /** What was MARKED stays behind it, whatever came; nothing is MARKED when weighing begins. */
    private static void marksThatStay() {
        ClauseCourt x = court(LADDER, LADDER_PROOF);
        String[] marks = {"00000000000", "00000000000", "00000011001", "00000011001", "00000011001",
            "00001111011", "00001111011", "00001111011", "00001111011", "00111111111", "00111111111",
            "00111111111", "11111111111"};
        for (int fuel = marks.length - 1; fuel >= 0; fuel--) {
            weigh(x, "b", fuel);
            alike("marks backwards with " + fuel, marks[fuel], marks(x, 11));
        }
    }

    /** Else by RAT (if that is allowed, and it has a LITERAL). */
    private static void ratOrNot() {
        ClauseCourt x = court("p cnf 1 0", "1 0");
        weighed(x, "", 2, "1 1 -1 1 0 0 0 0");
        weighed(x, "r", 2, "1 -1 -1 0 0 0 0 1");
        alike("no hints without another sign", "", hints(x, 1));
        ClauseCourt y = court("p cnf 1 0", "0");
        weighed(y, "r", 0, "1 1 -1 0 0 0 0 0");
        weighed(y, "br", 0, "1 1 1 0 0 1 0 0");
        ClauseCourt z = court(NAMED, NAMED_PROOF);
        weighed(z, "br", MANY, "0 -1 4 19982 6 4 3 1");
        alike("by RAT", "10 8 5 6; 5 6; -7; 1 2; 7 9 3 4",
                hints(z, 0) + "; " + hints(z, 7) + "; " + hints(z, 8) + "; " + hints(z, 9) + "; " + hints(z, 10));
        weighed(z, "r", MANY, "0 -1 4 19982 6 4 3 1");
        weighed(z, "b", MANY, "1 2 4 19987 6 4 2 0");
        alike("no hints if it doesn't hold", "", hints(z, 8));
        weighed(z, "", MANY, "1 2 -1 19995 2 0 1 0");
        // What holds by RUP isn't tried by RAT.
        ClauseCourt r = court("p cnf 2 2 1 2 0 1 -2 0", "1 0");
        weighed(r, "r", 3, "1 -1 -1 0 2 0 1 0");
    }

    /** Its first LITERAL p, as it stands. */
    private static void firstLiteral() {
        ClauseCourt x = court(NAMED, "5 -3 0\n3 -5 0\n1 0\n5 0\n");
        weighed(x, "br", MANY, "1 2 4 19984 6 4 2 0");
        ClauseCourt y = court(NAMED, "5 -3 0\n-5 3 -5 0\n1 0\n5 0\n");
        weighed(y, "br", MANY, "0 -1 4 19982 6 4 3 1");
    }

    /** For each ACTIVE CLAUSE D, by numbers; these stay MARKED, if a later D fails. */
    private static void partners() {
        String formula = "p cnf 4 4 -1 2 0 2 3 0 2 -3 0 -1 4 0 ";
        ClauseCourt x = court(formula, "1 0");
        weighed(x, "r", 6, "1 1 -1 0 3 0 0 0");
        alike("the first one's stay", "11100", marks(x, 5));
        weighed(x, "r", 5, "2 1 -1 0 3 0 0 0");
        alike("and if it runs out in the later one", "11100", marks(x, 5));
        weighed(x, "r", 3, "2 1 -1 0 0 0 0 0");
        alike("none yet", "00000", marks(x, 5));
        alike("no hints", "", hints(x, 5));
        ClauseCourt y = court(formula, "d -1 4 0 1 0");
        weighed(y, "r", MANY, "1 -1 -1 19994 3 0 0 1");
        alike("without the later one", "-1 2 3", hints(y, 5));
        ClauseCourt z = court(formula, "d 2 -1 0 1 0");
        weighed(z, "r", MANY, "1 2 -1 19997 0 0 0 0");
        // Each of two: its number below 0, and the hints of its conflict.
        ClauseCourt w = court("p cnf 4 4 -1 4 0 3 4 0 -3 4 0 -1 4 2 0", "1 0");
        weighed(w, "r", MANY, "1 -1 -1 19990 4 0 0 1");
        alike("two partners", "-1 2 3 -4 2 3", hints(w, 5));
        // Each of two conflicts by no clause, and so has its number alone.
        ClauseCourt v = court("p cnf 5 2 -5 1 0 -5 2 0", "5 -1 -2 0");
        weighed(v, "r", 8, "2 1 -1 0 1 0 0 0");
        weighed(v, "r", 9, "1 -1 -1 0 2 0 0 1");
        alike("by no clause", "-1 -2", hints(v, 3));
    }

    /** A DELETION: of the ACTIVE CLAUSES with just its LITERALS (in any order); nothing if there is none. */
    private static void deletedClauses() {
        ClauseCourt x = court("p cnf 3 2 1 2 0 3 0",
                "d 1 0 d 1 2 3 0 d 1 -2 0 d 1 3 0 d 0 d 2 1 2 0 d 1 2 0 d 2 1 0 d -3 0");
        weighed(x, "", MANY, "1 -1 -1 19990 0 0 0 0");
        alike("one is done", "d 2 1 0\n", shorter(x));
        weighed(x, "b", MANY, "1 -1 -1 19990 0 0 0 0");
        alike("one is done backwards", "d 2 1 0\n", shorter(x));
    }

    /** That of the greatest number is ACTIVE no more. */
    private static void greatestNumber() {
        ClauseCourt x = court("p cnf 4 2 1 2 0 2 1 0", "d 1 2 0 1 2 3 0 d 1 2 0 1 2 4 0");
        weighed(x, "", MANY, "1 4 -1 19993 1 0 1 0");
        alike("the first clause is left", "1", hints(x, 3));
        // The addition goes first, and each copy but once.
        ClauseCourt y = court("p cnf 4 1 1 2 0", "2 1 0 d 1 2 0 1 2 3 0 d 1 2 0 d 1 2 0 1 2 4 0");
        weighed(y, "", MANY, "1 6 -1 19991 1 0 2 0");
        alike("the formula's clause is left", "1", hints(y, 3));
        alike("but one is of the formula", "d 1 2 0\n", shorter(y));
    }

    /** Nor, if units are to be kept, if it is a REASON in the PROPAGATION from nothing that was done latest. */
    private static void keptUnits() {
        String formula = "p cnf 3 4 1 2 0 1 3 0 -2 0 -3 0";
        // Ahead of all: - 2 by 3, then 1 by 1, - 3 by 4; clause 2 is no reason.
        ClauseCourt x = court(formula, "d 1 2 0 d 1 3 0 d -2 0 d -3 0");
        weighed(x, "", MANY, "1 -1 -1 19991 0 0 0 0");
        alike("units go", "d 1 2 0\nd 1 3 0\nd -2 0\nd -3 0\n", shorter(x));
        weighed(x, "u", MANY, "1 -1 -1 19985 0 0 0 0");
        alike("reasons stay", "d 1 3 0\n", shorter(x));
        weighed(x, "bu", MANY, "1 -1 -1 19985 0 0 0 0");
        alike("reasons stay backwards", "d 1 3 0\n", shorter(x));
        // The lemmas mark 2 and 4; then - 3 by 4 and 1 by 2 come first, and clause 1 is a reason no more.
        ClauseCourt y = court(formula, "1 3 0 -3 0 d 1 2 0 d 1 3 0 d 3 1 0");
        due("reasons of the latest", 1, () -> weigh(y, "u", MANY));
        alike("reasons of the latest", "d 1 2 0\n", shorter(y));
        due("without marks", 1, () -> weigh(y, "bu", MANY));
        alike("without marks", "d 3 1 0\n", shorter(y));
        // A reason in a lemma's propagation is none from nothing.
        ClauseCourt z = court("p cnf 3 1 1 2 0", "3 1 0 d 1 2 0");
        weighed(z, "ru", MANY, "1 -1 -1 19997 0 0 0 1");
        alike("a lemma's reason goes", "d 1 2 0\n", shorter(z));
        // A unit whose literal is true already is no reason.
        ClauseCourt w = court("p cnf 1 2 1 0 1 0", "d 1 0 d 1 0");
        weighed(w, "u", MANY, "1 -1 -1 19997 0 0 0 0");
        alike("the later copy goes", "d 1 0\n", shorter(w));
    }

    /** The STEP at which it CONFLICTS: ahead of all, the first, the last, none. */
    private static void conflictSteps() {
        String[] ways = {"", "b"};
        for (String how : ways) {
            boolean backwards = how.equals("b");
            ClauseCourt x = court("p cnf 1 2 1 0 -1 0", "0 0 0");
            weighed(x, how, 1, "0 -1 0 0 2 0 0 0");
            alike("ahead of all", "1 2", hints(x, 0));
            alike("ahead of all: no steps", "", shorter(x));
            ClauseCourt y = court(SQUARE, "1 0 -2 0 3 0");
            weighed(y, how, MANY, "0 -1 1 19996 4 1 1 0");
            alike("the first one", "1 0\n", shorter(y));
            ClauseCourt z = court(SQUARE, "d 3 0 1 2 3 0 -1 0");
            weighed(z, how, MANY, backwards ? "0 -1 3 19996 4 1 1 0" : "0 -1 3 19993 4 1 2 0");
            alike("the last one", "-1 0\n", shorter(z));
            ClauseCourt w = court(SQUARE, "1 2 0");
            weighed(w, how, MANY, backwards ? "1 -1 -1 20000 0 0 0 0" : "1 -1 -1 19998 1 0 1 0");
            ClauseCourt v = court(SQUARE, "");
            weighed(v, how, 0, "1 -1 -1 0 0 0 0 0");
            ClauseCourt u = court("p cnf 0 0", "");
            weighed(u, how, 0, "1 -1 -1 0 0 0 0 0");
        }
    }

    /** Forwards each ADDITION is weighed, backwards those that are MARKED. */
    private static void additionsWeighed() {
        ClauseCourt x = court(SQUARE, "3 0 1 0 4 0");
        weighed(x, "", MANY, "1 1 -1 19999 0 0 0 0");
        weighed(x, "r", MANY, "0 -1 2 19993 4 1 1 1");
        weighed(x, "b", MANY, "0 -1 2 19994 4 1 1 0");
        alike("the one that is needed", "1 0\n", shorter(x));
        // Both are marked, but the later one fails, and so the first isn't weighed.
        ClauseCourt y = court("p cnf 2 3 1 2 0 1 -2 0 -1 2 0", "1 0 -2 0");
        weighed(y, "b", MANY, "1 2 2 19994 1 2 0 0");
        alike("the first one wasn't weighed", "", hints(y, 4));
    }

    /** A DELETION that was done is undone, backwards; one that wasn't, isn't. */
    private static void undoneDeletions() {
        // Lemma 9 is deleted behind lemma 10, which needs it.
        ClauseCourt x = court(LADDER, LADDER_PROOF);
        weighed(x, "b", MANY, "0 -1 4 19988 8 3 3 0");
        alike("lemma 10 by lemma 9", "9 3 4", hints(x, 10));
        // Deleted ahead of lemma 10, it is not there for it.
        ClauseCourt y = court(LADDER, "1 2 0 d 2 1 0 4 1 0 1 0");
        due("deleted ahead of its use", 1, () -> weigh(y, "b", MANY));
        alike("lemma 10 fails", "1 3 4", counts(y, 0, 2));
        // A clause of the formula comes back for the lemma ahead of its deletion.
        ClauseCourt z = court("p cnf 3 5 1 2 3 0 1 2 -3 0 1 -2 0 -1 3 0 -1 -3 0", "1 2 0 d 1 2 3 0 d 7 0 1 0");
        weighed(z, "b", MANY, "0 -1 4 19992 5 2 2 0");
        alike("its hints", "1 2", hints(z, 6));
        alike("its shorter proof", "1 2 0\nd 1 2 3 0\n1 0\n", shorter(z));
    }

    /** 300 CLAUSES of the FORMULA and 300 of ADDITIONS: the last ones are weighed like others. */
    private static void sixHundredClauses() {
        String ladder = LADDER.substring(LADDER.indexOf('\n') + 1);
        ClauseCourt x = court("p cnf 14 300\n" + times("13 14 0\n", 292) + ladder, times("13 14 0\n", 297) + "1 2 0 4 1 0 1 0");
        weighed(x, "b", MANY, "0 -1 300 19987 8 3 3 0");
        alike("the conflict", "600 299 300", hints(x, 0));
        alike("the last lemmas", "599 297 298; 598 295 296; 293 294", hints(x, 600) + "; " + hints(x, 599) + "; " + hints(x, 598));
        alike("their marks", "0 1 1 1", x.clause(597, 0) + " " + x.clause(598, 0) + " " + x.clause(599, 0) + " " + x.clause(600, 0));
        alike("the shorter proof", "1 2 0\n4 1 0\n1 0\n", shorter(x));
        // 150 by 298, then - 1 by 600, 2 by 299, and 300 conflicts.
        ClauseCourt y = court("p cnf 150 300\n" + times("13 14 0\n", 297) + "150 0 1 2 0 1 -2 0",
                times("13 14 0\n", 299) + "-150 -1 0");
        weighed(y, "b", MANY, "1 300 300 19695 3 1 0 0");
        alike("by the last clause", "298 600 299 300", hints(y, 0));
    }

    /** All of the 600 are units; the conflict is by the last one. */
    private static void sixHundredUnits() {
        ClauseCourt x = court("p cnf 1 300 " + times("1 0 ", 300), times("1 0 ", 299) + "-1 0");
        weighed(x, "b", MANY, "1 300 300 19698 1 1 0 0");
        alike("the conflict", "1 600", hints(x, 0));
        due("it is no clause of the formula", 1, () -> x.count(5));
        weighed(x, "", MANY, "1 300 -1 19400 1 0 299 0");
        alike("the last that held", "1; ", hints(x, 599) + "; " + hints(x, 600));
    }

    /** A DELETION as the 300th STEP is done like others. */
    private static void lastDeletion() {
        ClauseCourt x = court("p cnf 2 1 1 2 0", times("d 9 0 ", 299) + "d 2 1 0");
        weighed(x, "", 0, "1 -1 -1 0 0 0 0 0");
        alike("the last step", "d 2 1 0\n", shorter(x));
    }

    /** All 150 variables become TRUE, each by a REASON that is USED. */
    private static void longestPropagation() {
        StringBuilder f = new StringBuilder("p cnf 150 151\n1 0\n").append(chain(149)).append("-150 0\n");
        ClauseCourt x = court(f.toString(), "");
        weighed(x, "", 149, "2 0 -1 0 0 0 0 0");
        weighed(x, "", 150, "0 -1 0 0 151 0 0 0");
        alike("the last hints", "149 150 151 0", x.hint(0, 148) + " " + x.hint(0, 149) + " " + x.hint(0, 150) + " " + x.hint(0, 151));
        // The greatest variable, of either sign, and the least one.
        String[] formulas = {"150 0 -150 1 0 -1 0", "-150 0 150 1 0 -1 0", "1 0 -1 150 0 -150 0", "-1 0 1 -150 0 150 0"};
        for (String rows : formulas) {
            ClauseCourt y = court("p cnf 150 3 " + rows, "");
            weighed(y, "", 2, "0 -1 0 0 3 0 0 0");
            alike(rows, "1 2 3", hints(y, 0));
        }
    }

    /** Forty LITERALS of an ADDITION and 39 of its D are assumed. */
    private static void mostAssumptions() {
        ClauseCourt x = court("p cnf 80 3 -1 " + row(41, 79) + "79 80 0 79 -80 0", row(1, 40));
        weighed(x, "r", 119, "2 1 -1 0 0 0 0 0");
        weighed(x, "r", 120, "1 -1 -1 0 3 0 0 1");
        alike("its hints", "-1 2 3", hints(x, 4));
    }

    private static String chain(int length) {
        StringBuilder rows = new StringBuilder();
        for (int i = 1; i <= length; i++) {
            rows.append(-i).append(' ').append(i + 1).append(" 0\n");
        }
        return rows.toString();
    }

    private static void weighings() {
        numbersOfClauses();
        falseAssumptions();
        trueAssumptions();
        clausesThatAct();
        firstClause();
        whatIsUsed();
        fuelsOfEachPropagation();
        marksThatStay();
        ratOrNot();
        firstLiteral();
        partners();
        deletedClauses();
        greatestNumber();
        keptUnits();
        conflictSteps();
        additionsWeighed();
        undoneDeletions();
        sixHundredClauses();
        sixHundredUnits();
        lastDeletion();
        longestPropagation();
        mostAssumptions();
    }

    // ---- The promises

    /** Promise 1: an empty tape, a FORMULA without CLAUSES, a PROOF without STEPS, nothing weighed. */
    private static void newObject() {
        ClauseCourt x = new ClauseCourt();
        due("NONE", NONE, () -> ClauseCourt.NONE);
        alike("new: counts", "-1 -1 -1 0 0 0 0 0 0 0 0 0", counts(x, 0, 11));
        due("new: fault(0)", 0, () -> x.fault(0));
        due("new: fault(1)", NONE, () -> x.fault(1));
        refused("new", x, NO_ELEMENT, () -> x.clause(0, 0), () -> x.clause(1, 0), () -> x.step(0, 0),
                () -> x.step(1, 0), () -> x.hint(1, 0), () -> x.hint(-1, 0), () -> x.out(0));
        refused("new: the tape", x, ARGUMENT, () -> x.formula(1), () -> x.proof(1, false), () -> x.proof(1, true));
        due("new: hint(0, 0)", 0, () -> x.hint(0, 0));
        due("new: shorter()", 0, x::shorter);
        due("new: takeShorter()", 0, x::takeShorter);
        due("new: proof(0, false)", 0, () -> x.proof(0, false));
        due("new: proof(0, true)", 0, () -> x.proof(0, true));
        due("new: weigh", 1, () -> x.weigh(true, true, true, 0));
        alike("new: counts then", "1 -1 -1 0 0 0 0 0 0 0 0 0", counts(x, 0, 11));
        due("new: formula(0)", 1, () -> x.formula(0));
        due("new: fault(1) then", 0, () -> x.fault(1));
        // Another object knows nothing of it.
        alike("another new one", "-1 -1 -1 0 0 0 0 0 0 0 0 0", counts(new ClauseCourt(), 0, 11));
    }

    /** Promise 2: twenty bytes come behind the tape, of each number the highest first. */
    private static void fedBytes() {
        ClauseCourt x = new ClauseCourt();
        due("feed", 20, () -> x.feed(0x61020405, 0x06070800, 0x64ac02ad, 0x02006180, 0x01006400));
        due("count(11)", 20, () -> x.count(11));
        due("feed behind it", 40, () -> x.feed(0x61000000, LEAST, GREATEST, -1, 0));
        due("all of the first, two of the second", 0, () -> x.proof(22, true));
        alike("its steps", "1 2 -2 3 -3 4 0, d 150 -150 0, 64 0, d 0, 0", steps(x));
        due("the tape is empty then", 0, () -> x.count(11));
        due("feed anew", 20, () -> x.feed(0x64000000, 0, 0, 0, 0));
        due("the new bytes are the first", 0, () -> x.proof(2, true));
        alike("their step", "d 0", steps(x));
    }

    /** Promise 2: NONE, and none come, if it would have more than 6,000. */
    private static void fullTape() {
        ClauseCourt x = new ClauseCourt();
        for (int i = 1; i <= 298; i++) {
            x.feed(0x20202020, 0x20202020, 0x20202020, 0x20202020, 0x20202020);
        }
        due("298 times", 5960, () -> x.count(11));
        due("feed to 5,980", 5980, () -> feedAt(x, "1 0", 0));
        due("feed to 6,000", 6000, () -> feedAt(x, "2                  0", 0));
        due("feed beyond", NONE, () -> feedAt(x, "x", 0));
        due("feed beyond again", NONE, () -> x.feed(LEAST, GREATEST, -1, 0, 1));
        due("bytes", 6000, () -> x.count(11));
        due("6,001 of them", ARGUMENT, () -> x.proof(6001, false));
        due("6,001 of them as a formula", ARGUMENT, () -> x.formula(6001));
        due("bytes still", 6000, () -> x.count(11));
        due("6,000 of them", 0, () -> x.proof(6000, false));
        alike("their steps", "1 0, 2 0", steps(x));
        due("feed then", 20, () -> feedAt(x, "1", 0));
        for (int i = 1; i <= 150; i++) {
            x.feed(0, 0, 0, 0, 0);
        }
        due("feed goes on", 3040, () -> feedAt(x, "1", 0));
    }

    /** Promise 3: its last byte is the 6,000th; one byte less, and the text ends too soon. */
    private static void longestFormula() {
        for (int less = 0; less <= 1; less++) {
            ClauseCourt x = new ClauseCourt();
            feed(x, "p cnf 1 1" + times(" ", 5988) + "1 0");
            int n = 6000 - less;
            due("formula(" + n + ")", less, () -> x.formula(n));
            due("its place", less == 0 ? NONE : n, () -> x.fault(1));
            due("its clauses", 1 - less, () -> x.count(8));
        }
    }

    /** Promises 3 and 4: IllegalArgumentException: the tape has not so many, n below 0 (nothing changes). */
    private static void refusedTexts() {
        ClauseCourt x = busyCourt();
        refused("formula", x, ARGUMENT, () -> x.formula(21), () -> x.formula(-1), () -> x.formula(6000),
                () -> x.formula(LEAST), () -> x.formula(GREATEST));
        ClauseCourt y = busyCourt();
        refused("proof", y, ARGUMENT, () -> y.proof(21, false), () -> y.proof(-1, false), () -> y.proof(21, true),
                () -> y.proof(-1, true), () -> y.proof(LEAST, true), () -> y.proof(GREATEST, false));
        due("what the tape has", 0, () -> y.formula(20));
        ClauseCourt z = busyCourt();
        due("one byte less", 0, () -> z.formula(19));
        due("nothing is left", ARGUMENT, () -> z.formula(1));
        due("nothing is left for a proof", ARGUMENT, () -> z.proof(1, false));
        due("none of nothing", 0, () -> z.proof(0, false));
    }

    /** Promise 3: 0, there are no STEPS and nothing is weighed then. */
    private static void newFormula() {
        ClauseCourt x = busyCourt();
        due("a formula", 0, () -> x.formula(13));
        alike("all then", "-1 -1 -1 0 0 0 0 0 1 0 1; 1 0; 0; ; ; ; 1 0\n; 0 0 -1", whole(x));
        due("no other clause", NO_ELEMENT, () -> x.clause(2, 0));
        due("no step", NO_ELEMENT, () -> x.step(1, 0));
        due("no hints of one", NO_ELEMENT, () -> x.hint(2, 0));
        due("none without a weigh", 0, x::shorter);
        due("and OUT is empty", NO_ELEMENT, () -> x.out(0));
    }

    /** Promise 4: 0, nothing is weighed then; the FORMULA stays. */
    private static void newProof() {
        ClauseCourt x = busyCourt();
        due("the tape is no proof", 1, () -> x.proof(13, false));
        due("a proof", 0, () -> proof(x, "d 2 0 5 0", false));
        alike("all then", "-1 -1 -1 0 0 0 0 0 4 2 2; 1 2 0, 1 -2 0, -1 2 0, -1 -2 0, 5 0; 00000; d 2 0, 5 0; ; ; ; ; ; ; "
                + "1 0\n; 0 0 -1", whole(x));
        due("a proof without steps", 0, () -> x.proof(0, true));
        alike("all then", "-1 -1 -1 0 0 0 0 0 4 0 2; 1 2 0, 1 -2 0, -1 2 0, -1 -2 0; 0000; ; ; ; ; ; ; 1 0\n; 0 0 -1", whole(x));
        due("a formula without clauses", 0, () -> formula(x, "p cnf 0 0"));
        due("a literal beyond V is none beyond 150", 0, () -> proof(x, "150 0", false));
        due("its clause", 150, () -> x.clause(1, 2));
    }

    /** Promises 3 and 4: or its FAULT (all stays); the tape is empty then, too. */
    private static void faultyTexts() {
        String[] formulas = {"", "p cnf 1 1 1", "p cnf 151 0", "p cnf 1 1 " + times("1 ", 41)};
        for (String text : formulas) {
            ClauseCourt x = busyCourt();
            String before = court(x);
            due("none of the tape", 1, () -> x.formula(0));
            int kind = text.isEmpty() ? 1 : text.contains("151") ? 2 : text.length() > 50 ? 3 : 1;
            due("formula " + text, kind, () -> formula(x, text));
            alike("formula " + text + ": all stays", before, court(x));
            due("formula " + text + ": the tape", 0, () -> x.count(11));
        }
        String[] proofs = {"1", "1 151", times("0 ", 301)};
        for (int i = 0; i < proofs.length; i++) {
            String text = proofs[i];
            int kind = i + 1;
            ClauseCourt x = busyCourt();
            String before = court(x);
            due("the tape is no proof", 1, () -> x.proof(20, true));
            due("proof " + text, kind, () -> proof(x, text, false));
            alike("proof " + text + ": all stays", before, court(x));
            due("proof " + text + ": the tape", 0, () -> x.count(11));
            due("proof " + text + ": and what was weighed is shortened", 4, x::shorter);
        }
    }

    /** Promise 5: NoSuchElementException: another what; of the latest formula() or proof(). */
    private static void faults() {
        ClauseCourt x = busyCourt();
        refused("fault", x, NO_ELEMENT, () -> x.fault(-1), () -> x.fault(2), () -> x.fault(LEAST), () -> x.fault(GREATEST));
        ClauseCourt y = new ClauseCourt();
        due("a formula's", 1, () -> formula(y, "p cnf 1"));
        alike("a formula's", "1 7", y.fault(0) + " " + y.fault(1));
        due("a call that is refused", ARGUMENT, () -> y.proof(1, false));
        alike("it is no latest one", "1 7", y.fault(0) + " " + y.fault(1));
        due("takeShorter()", 0, y::takeShorter);
        due("weigh()", 1, () -> weigh(y, "", 0));
        alike("they are none either", "1 7", y.fault(0) + " " + y.fault(1));
        due("a proof's", 2, () -> proof(y, "a\1", true));
        alike("a proof's", "2 1", y.fault(0) + " " + y.fault(1));
        due("none of a proof", 0, () -> proof(y, "0", false));
        alike("none of a proof", "0 -1", y.fault(0) + " " + y.fault(1));
        due("at the first byte", 1, () -> proof(y, "x", false));
        alike("at the first byte", "1 0", y.fault(0) + " " + y.fault(1));
        due("none of a formula", 0, () -> formula(y, "p cnf 0 0"));
        alike("none of a formula", "0 -1", y.fault(0) + " " + y.fault(1));
    }

    /** Promise 6: IllegalArgumentException: fuel is not 0 .. 20,000. */
    private static void fuelGiven() {
        ClauseCourt x = busyCourt();
        refused("weigh", x, ARGUMENT, () -> x.weigh(true, true, true, -1), () -> x.weigh(false, false, false, 20001),
                () -> x.weigh(true, false, true, LEAST), () -> x.weigh(false, true, false, GREATEST));
        weighed(x, "b", 0, "2 0 -1 0 0 0 0 0");
        weighed(x, "b", 1, "2 0 -1 0 0 0 0 0");
        weighed(x, "b", 19999, "0 -1 1 19995 4 1 1 0");
        weighed(x, "b", 20000, "0 -1 1 19996 4 1 1 0");
        ClauseCourt y = new ClauseCourt();
        refused("weigh of a new one", y, ARGUMENT, () -> y.weigh(true, true, true, -1), () -> y.weigh(true, true, true, 20001));
    }

    /** Promise 7: NoSuchElementException: another what. */
    private static void countsThere() {
        ClauseCourt x = busyCourt();
        refused("count", x, NO_ELEMENT, () -> x.count(-1), () -> x.count(12), () -> x.count(LEAST), () -> x.count(GREATEST));
        alike("those there", "0 -1 1 96 4 1 1 0 4 2 2 20", counts(x, 0, 11));
    }

    /** Promise 7: 1 the STEP: of the first, the last; 0; NONE: nothing contradicts, or VERIFIED. */
    private static void failedSteps() {
        ClauseCourt first = court("p cnf 1 0", "1 0 d 1 0");
        weighed(first, "", MANY, "1 1 -1 19999 0 0 0 0");
        weighed(first, "", 0, "2 1 -1 0 0 0 0 0");
        ClauseCourt last = court("p cnf 1 0", "d 1 0 1 0");
        weighed(last, "", MANY, "1 2 -1 19999 0 0 0 0");
        weighed(last, "", 0, "2 2 -1 0 0 0 0 0");
        weighed(last, "b", 0, "2 0 -1 0 0 0 0 0");
        weighed(last, "b", 1, "1 -1 -1 0 0 0 0 0");
        weighed(last, "r", 1, "2 0 -1 0 0 0 0 1");
        weighed(last, "r", 2, "1 -1 -1 0 0 0 0 1");
        StringBuilder proof = new StringBuilder(times("1 -1 0 ", 299));
        ClauseCourt many = court("p cnf 1 0", proof + "1 0");
        weighed(many, "", 299, "2 300 -1 0 0 0 299 0");
        weighed(many, "", 300, "1 300 -1 0 0 0 299 0");
    }

    /** Promise 8: CLAUSE k (from 1 on); NoSuchElementException: no such CLAUSE, or what below 0. */
    private static void clausesThere() {
        ClauseCourt x = busyCourt();
        refused("clause", x, NO_ELEMENT, () -> x.clause(0, 0), () -> x.clause(-1, 0), () -> x.clause(7, 0),
                () -> x.clause(LEAST, 1), () -> x.clause(GREATEST, 1), () -> x.clause(1, -1), () -> x.clause(6, -1),
                () -> x.clause(1, LEAST), () -> x.clause(0, -1), () -> x.clause(7, 2));
        alike("the formula's last", "1 2 -1 -2 0 0", clauseCells(x, 4, 0, 1, 2, 3, 4, GREATEST));
        alike("the first addition", "1 1 1 0 0 0", clauseCells(x, 5, 0, 1, 2, 3, 4, GREATEST));
        alike("the last addition", "0 0 0 0 0 0", clauseCells(x, 6, 0, 1, 2, 3, 4, GREATEST));
        ClauseCourt y = court("p cnf 150 300 " + times("1 0 ", 300), times("1 0 ", 299) + "-150 2 0");
        due("clause 300", 1, () -> y.clause(300, 2));
        due("clause 301", 1, () -> y.clause(301, 2));
        alike("clause 600", "0 2 -150 2 0", clauseCells(y, 600, 0, 1, 2, 3, 4));
        due("clause 601", NO_ELEMENT, () -> y.clause(601, 1));
        due("clause 599", 0, () -> y.clause(599, 3));
    }

    private static String clauseCells(ClauseCourt x, int k, int... whats) {
        StringBuilder row = new StringBuilder();
        for (int what : whats) {
            row.append(row.length() == 0 ? "" : " ").append(x.clause(k, what));
        }
        return row.toString();
    }

    /** Promise 8: 0 whether it is MARKED (1; 0 unless something is weighed). */
    private static void marksOfClauses() {
        ClauseCourt x = court(SQUARE, "1 0 0");
        alike("ahead of a weigh", "000000", marks(x, 6));
        due("weigh", 0, () -> weigh(x, "b", MANY));
        alike("behind it", "111110", marks(x, 6));
        due("a faulty proof", 1, () -> proof(x, "x", false));
        alike("behind a faulty proof", "111110", marks(x, 6));
        due("weigh with nothing", 2, () -> weigh(x, "b", 0));
        alike("behind that", "000000", marks(x, 6));
        due("weigh", 0, () -> weigh(x, "", MANY));
        alike("behind that", "111110", marks(x, 6));
        due("a proof", 0, () -> proof(x, "1 0 0", false));
        alike("behind a new proof", "000000", marks(x, 6));
    }

    /** Promise 9: STEP i (from 1 on); NoSuchElementException: no such STEP, or what below 0. */
    private static void stepsThere() {
        ClauseCourt x = court("p cnf 2 1 1 0", "d 1 2 0 -2 1 2 0 0");
        refused("step", x, NO_ELEMENT, () -> x.step(0, 0), () -> x.step(-1, 0), () -> x.step(4, 0), () -> x.step(LEAST, 2),
                () -> x.step(GREATEST, 2), () -> x.step(1, -1), () -> x.step(3, -1), () -> x.step(1, LEAST), () -> x.step(4, 3));
        alike("the first", "1 0 2 1 2 0 0", stepCells(x, 1, 0, 1, 2, 3, 4, 5, GREATEST));
        alike("the second", "0 2 3 -2 1 2 0 0", stepCells(x, 2, 0, 1, 2, 3, 4, 5, 6, GREATEST));
        alike("the third", "0 3 0 0 0 0", stepCells(x, 3, 0, 1, 2, 3, 4, GREATEST));
        ClauseCourt y = court("p cnf 0 0", times("1 0 ", 299) + "d -150 0");
        alike("step 299", "0 299 1 1 0", stepCells(y, 299, 0, 1, 2, 3, 4));
        alike("step 300", "1 0 1 -150 0", stepCells(y, 300, 0, 1, 2, 3, 4));
        due("step 301", NO_ELEMENT, () -> y.step(301, 0));
    }

    private static String stepCells(ClauseCourt x, int i, int... whats) {
        StringBuilder row = new StringBuilder();
        for (int what : whats) {
            row.append(row.length() == 0 ? "" : " ").append(x.step(i, what));
        }
        return row.toString();
    }

    /** Promise 10: NoSuchElementException: there is no such CLAUSE, or j is below 0; 0 if there is none such. */
    private static void hintsThere() {
        ClauseCourt x = busyCourt();
        refused("hint", x, NO_ELEMENT, () -> x.hint(-1, 0), () -> x.hint(7, 0), () -> x.hint(LEAST, 0),
                () -> x.hint(GREATEST, 0), () -> x.hint(0, -1), () -> x.hint(5, -1), () -> x.hint(6, LEAST), () -> x.hint(7, -1));
        alike("of the conflict", "5 3 4 0 0", x.hint(0, 0) + " " + x.hint(0, 1) + " " + x.hint(0, 2) + " " + x.hint(0, 3)
                + " " + x.hint(0, GREATEST));
        alike("of the addition", "1 2 0 0", x.hint(5, 0) + " " + x.hint(5, 1) + " " + x.hint(5, 2) + " " + x.hint(5, GREATEST));
        alike("of others", "0 0 0", x.hint(1, 0) + " " + x.hint(4, 0) + " " + x.hint(6, 0));
        due("weigh with less", 2, () -> weigh(x, "b", 3));
        alike("the conflict's alone", "5 3 4; ", hints(x, 0) + "; " + hints(x, 5));
        due("weigh with nothing", 2, () -> weigh(x, "b", 0));
        alike("none", "; ", hints(x, 0) + "; " + hints(x, 5));
    }

    /** Promise 10: 4,000 are kept in all, in the order in which they came: at a lemma's end and inside it. */
    private static void hintsKept() {
        // Each of the 51 lemmas has 80 hints, for 81 of fuel: room for fifty.
        ClauseCourt x = court("p cnf 81 80\n" + chain(80), times("-1 81 0 ", 51));
        weighed(x, "", MANY, "1 -1 -1 15869 80 0 51 0");
        alike("the 3,999th, the 4,000th, none", "79 80 0 0 0",
                x.hint(130, 78) + " " + x.hint(130, 79) + " " + x.hint(130, 80) + " " + x.hint(131, 0) + " " + x.hint(131, 1));
        // One hint ahead of them: the fiftieth loses its last one.
        ClauseCourt y = court("p cnf 81 80\n" + chain(80), "-1 2 0 " + times("-1 81 0 ", 51));
        weighed(y, "", MANY, "1 -1 -1 15867 80 0 52 0");
        alike("up to the 4,000th", "1 0 79 0 0", y.hint(81, 0) + " " + y.hint(81, 1) + " " + y.hint(131, 78) + " "
                + y.hint(131, 79) + " " + y.hint(132, 0));
        // 79 ahead of them: the fiftieth has but its first one.
        ClauseCourt z = court("p cnf 81 80\n" + chain(80), "-1 80 0 " + times("-1 81 0 ", 51));
        weighed(z, "", MANY, "1 -1 -1 15789 80 0 52 0");
        alike("from the 3,999th on", "80 1 0 0", z.hint(130, 79) + " " + z.hint(131, 0) + " " + z.hint(131, 1) + " "
                + z.hint(132, 0));
        // Another weighing begins with none.
        weighed(z, "", 82, "2 2 -1 0 79 0 1 0");
        alike("a new weighing", "79 0", z.hint(81, 78) + " " + z.hint(82, 0));
    }

    /**
     * Backwards the conflict's come first (55), then those of the last two lemmas (2 each), then the
     * 80 of each of 51 lemmas from the last one back: the second one keeps 21, the first one none.
     */
    private static void hintsKeptBackwards() {
        StringBuilder f = new StringBuilder("p cnf 135 86\n" + chain(80) + "1 82 0 1 -82 0 -81 83 0 -81 -83 0\n");
        for (int y = 84; y <= 122; y++) {
            f.append(-y).append(' ');
        }
        f.append("135 0\n-135 ");
        StringBuilder p = new StringBuilder();
        for (int y = 84; y <= 134; y++) {
            f.append(y > 122 ? -y + " " : "");
            p.append("-1 81 ").append(y).append(" 0\n");
        }
        ClauseCourt x = court(f + "0\n", p + "d -80 81 0 1 0 -81 0");
        weighed(x, "b", MANY, "0 -1 54 15470 86 53 53 0");
        alike("the conflict's", "138 139 87 125 85 126 136 86 137 0", x.hint(0, 0) + " " + x.hint(0, 1) + " " + x.hint(0, 2)
                + " " + x.hint(0, 40) + " " + x.hint(0, 41) + " " + x.hint(0, 42) + " " + x.hint(0, 52) + " " + x.hint(0, 53)
                + " " + x.hint(0, 54) + " " + x.hint(0, 55));
        alike("the last lemmas'", "83 84; 81 82", hints(x, 139) + "; " + hints(x, 138));
        alike("the third one's", "80 0", x.hint(89, 79) + " " + x.hint(89, 80));
        alike("the second one's", "1 20 21 0", x.hint(88, 0) + " " + x.hint(88, 19) + " " + x.hint(88, 20) + " " + x.hint(88, 21));
        due("the first one's", 0, () -> x.hint(87, 0));
    }

    /** Promise 11: up to the one with which it CONFLICTED (all without one; none without a weigh()). */
    private static void stepsKept() {
        ClauseCourt x = court(SQUARE, "d 1 2 3 0 1 0 2 0 d 2 0");
        due("without a weigh", 0, x::shorter);
        due("weigh", 0, () -> weigh(x, "b", MANY));
        alike("up to the conflict", "1 0\n", shorter(x));
        due("weigh with less", 2, () -> weigh(x, "b", 1));
        alike("none is marked", "", shorter(x));
        // Without a conflict the last step counts, too.
        ClauseCourt y = court("p cnf 2 2 1 2 0 2 0", "1 2 3 0 1 2 3 4 0 d 1 2 0 d 3 2 1 0 d 1 2 3 4 0 d 2 0");
        due("no conflict", 1, () -> weigh(y, "", MANY));
        alike("no conflict", "d 1 2 0\nd 2 0\n", shorter(y));
        due("a formula", 0, () -> formula(y, "p cnf 0 0"));
        due("without a weigh again", 0, y::shorter);
    }

    /** Promise 11: ADDITIONS that are MARKED, and DELETIONS that were done, of those and of the FORMULA. */
    private static void deletionsKept() {
        // Lemma 9 is marked, lemma 10 isn't; clause 1 is marked, clause 8 isn't; 6 is no clause.
        ClauseCourt x = court("p cnf 5 8 1 2 3 0 1 2 -3 0 1 -2 4 0 1 -2 -4 0 -1 3 0 -1 -3 5 0 -1 -3 -5 0 4 5 0",
                "2 1 2 0\n1 2 5 0\nd 3 2 1 0\nd 5 4 0\nd 5 1 2 0\nd 6 0\nd -3 0\n1 0\nd 1 2 0\n");
        due("weigh", 0, () -> weigh(x, "b", MANY));
        alike("its marks", "11111110101", marks(x, 11));
        alike("its counts", "0 -1 8", counts(x, 0, 2));
        alike("what is kept", "2 1 0\nd 3 2 1 0\nd 5 4 0\n1 0\n", shorter(x));
        due("its steps", 4, x::takeShorter);
        due("it holds as well", 0, () -> weigh(x, "b", MANY));
        alike("and is as short", "2 1 0\nd 3 2 1 0\nd 5 4 0\n1 0\n", shorter(x));
    }

    private static String byteSteps(String lines) {
        StringBuilder bytes = new StringBuilder();
        for (String line : lines.split("\n")) {
            bytes.append('d');
            for (String literal : line.split(" ")) {
                int l = Integer.parseInt(literal);
                int u = l >= 0 ? 2 * l : 1 - 2 * l;
                bytes.append(u < 128 ? "" + (char) u : "" + (char) (u % 128 + 128) + (char) (u / 128));
            }
        }
        return bytes.toString();
    }

    /** Promises 11 to 13: its first 6,000 are kept; takeShorter is refused if OUT had more, and all stays. */
    private static void longOut() {
        String[] lastLiterals = {"1 ", "11 ", "111 "};
        for (int i = 0; i < 3; i++) {
            String row = "-100 -101 -102 -103 -104 -105 -106 -107 -108 -109 -110 -111 -112 -113 -114 -115 -116 -117 0\n";
            StringBuilder last = new StringBuilder();
            for (int l = 100; l <= 132; l++) {
                last.append(-l).append(' ');
            }
            String rows = times(row, 62) + last + lastLiterals[i] + "0\n";
            int length = 5999 + i;
            boolean fits = length <= 6000;
            int kept = Math.min(length, 6000);
            ClauseCourt x = new ClauseCourt();
            due("long rows", 0, () -> formula(x, "p cnf 150 63\n" + rows));
            due("long deletions", 0, () -> proof(x, byteSteps(rows), true));
            due("nothing contradicts", 1, () -> weigh(x, "", 7));
            feed(x, "x");
            due("bytes of OUT", length, x::shorter);
            alike("the first", "d -", "" + (char) x.out(0) + (char) x.out(1) + (char) x.out(2));
            alike("the last that are kept", fits ? "0\n" : " 0", "" + (char) x.out(kept - 2) + (char) x.out(kept - 1));
            due("none behind them", NO_ELEMENT, () -> x.out(kept));
            due("none at its length", NO_ELEMENT, () -> x.out(length));
            due("takeShorter", fits ? 63 : NONE, x::takeShorter);
            alike("weighed or not", (fits ? "-1 -1 -1 0" : "1 -1 -1 7") + " 0 0 0 0 63 63 150 20", counts(x, 0, 11));
            alike("the last step", "1 0 34 -100 -132 " + lastLiterals[i] + "0", stepCells(x, 63, 0, 1, 2, 3, 35, 36, 37));
            due("OUT stays", fits ? '\n' : '0', () -> x.out(kept - 1));
            due("the fault stays", 0, () -> x.fault(0));
            due("once more", fits ? 63 : NONE, x::takeShorter);
            due("a new OUT", fits ? 0 : length, x::shorter);
            due("it is empty or as it was", fits ? NO_ELEMENT : 'd', () -> x.out(0));
        }
    }

    /** Promise 12: NoSuchElementException: there is none that is kept. */
    private static void bytesOfOut() {
        ClauseCourt x = busyCourt();
        refused("out", x, NO_ELEMENT, () -> x.out(-1), () -> x.out(4), () -> x.out(5), () -> x.out(5999), () -> x.out(6000),
                () -> x.out(LEAST), () -> x.out(GREATEST));
        alike("its bytes", "49 32 48 10", x.out(0) + " " + x.out(1) + " " + x.out(2) + " " + x.out(3));
        ClauseCourt y = court("p cnf 150 5 9 -9 0 10 -10 0 99 -99 0 100 -100 0 150 -150 0 ",
                "d 9 -9 0 d 10 -10 0 d 99 -99 0 d 100 -100 0 d 150 -150 0");
        due("weigh", 1, () -> weigh(y, "", 0));
        alike("digits", "d 9 -9 0\nd 10 -10 0\nd 99 -99 0\nd 100 -100 0\nd 150 -150 0\n", shorter(y));
        due("its steps", 5, y::takeShorter);
        alike("read again", "d 9 -9 0, d 10 -10 0, d 99 -99 0, d 100 -100 0, d 150 -150 0", steps(y));
    }

    /** Promise 13: what is in OUT becomes the PROOF: its STEPS; nothing is weighed then. */
    private static void takenProof() {
        ClauseCourt x = busyCourt();
        due("taken", 1, x::takeShorter);
        alike("all then", "-1 -1 -1 0 0 0 0 0 4 1 2; 1 2 0, 1 -2 0, -1 2 0, -1 -2 0, 1 0; 00000; 1 0; ; ; ; ; ; ; "
                + "1 0\n; 20 2 2", whole(x));
        weighed(x, "b", 4, "0 -1 1 0 4 1 1 0");
        due("OUT of a weigh ahead is taken", 1, x::takeShorter);
        due("a formula", 0, () -> x.formula(20));
        due("and for another formula", 1, x::takeShorter);
        alike("its clauses", "1 0, 1 0", clauses(x, 1, 2));
        due("none without a weigh", 0, x::shorter);
        due("an empty OUT is taken", 0, x::takeShorter);
        due("no steps", 0, () -> x.count(9));
        due("no clause of one", NO_ELEMENT, () -> x.clause(2, 0));
    }

    private static void promises() {
        newObject();
        fedBytes();
        fullTape();
        longestFormula();
        refusedTexts();
        newFormula();
        newProof();
        faultyTexts();
        faults();
        fuelGiven();
        countsThere();
        failedSteps();
        clausesThere();
        marksOfClauses();
        stepsThere();
        hintsThere();
        hintsKept();
        hintsKeptBackwards();
        stepsKept();
        deletionsKept();
        longOut();
        bytesOfOut();
        takenProof();
    }

    public static void main(String[] args) {
        texts();
        weighings();
        promises();
        System.out.println(wrong == 0 ? asked + " answers are as due" : wrong + " of " + asked + " answers are not as due");
        if (wrong != 0) {
            System.exit(1);
        }
    }
}
