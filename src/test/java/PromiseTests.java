import java.util.NoSuchElementException;

/** The promises one by one, on runs whose answers were worked out by hand from the document. */
public final class PromiseTests {
    private static final int NONE = -1;
    private static final int ARGUMENT = -1001;
    private static final int NO_ELEMENT = -1002;

    private static final String SQUARE = "p cnf 2 4\n1 2 0\n1 -2 0\n-1 2 0\n-1 -2 0\n";
    private static final String LADDER = "p cnf 7 8\n1 2 3 0\n1 2 -3 0\n1 -2 4 7 0\n1 -2 4 -7 0\n"
            + "1 -4 6 0\n1 -4 -6 0\n-1 5 0\n-1 -5 0\n";
    private static final String LADDER_PROOF = "1 2 0\n4 1 0\nd 2 1 0\n1 0\n";

    private static int wrong = 0;
    private static int asked = 0;

    private interface Call {
        int on();
    }

    private static int answer(Call call) {
        try {
            return call.on();
        } catch (IllegalArgumentException e) {
            return ARGUMENT;
        } catch (NoSuchElementException e) {
            return NO_ELEMENT;
        }
    }

    private static void due(String what, int want, Call call) {
        int got = answer(call);
        asked++;
        if (got != want) {
            wrong++;
            System.out.println(what + " answered " + got + ", due is " + want);
        }
    }

    private static int word(String text, int place) {
        int value = 0;
        for (int i = place; i < place + 4; i++) {
            value = value << 8 | (i < text.length() ? text.charAt(i) & 255 : ' ');
        }
        return value;
    }

    private static void feed(ClauseCourt x, String text) {
        for (int i = 0; i < text.length(); i += 20) {
            x.feed(word(text, i), word(text, i + 4), word(text, i + 8), word(text, i + 12), word(text, i + 16));
        }
    }

    private static int formula(ClauseCourt x, String text) {
        feed(x, text);
        return x.formula(text.length());
    }

    private static int proof(ClauseCourt x, String text, boolean bytes) {
        feed(x, text);
        return x.proof(text.length(), bytes);
    }

    private static ClauseCourt court(String formula, String proof) {
        ClauseCourt x = new ClauseCourt();
        due("formula " + formula, 0, () -> formula(x, formula));
        due("proof " + proof, 0, () -> proof(x, proof, false));
        return x;
    }

    private static void counts(String what, ClauseCourt x, int... want) {
        for (int i = 0; i < want.length; i++) {
            int place = i;
            due(what + ": count(" + i + ")", want[i], () -> x.count(place));
        }
    }

    private static void hints(String what, ClauseCourt x, int k, int... want) {
        for (int j = 0; j <= want.length; j++) {
            int place = j;
            due(what + ": hint(" + k + ", " + j + ")", j < want.length ? want[j] : 0, () -> x.hint(k, place));
        }
    }

    /** Of the clauses from 1 on: 1 for a marked one. */
    private static void marks(String what, ClauseCourt x, String want) {
        for (int k = 1; k <= want.length(); k++) {
            int number = k;
            due(what + ": clause(" + k + ", 0)", want.charAt(k - 1) - '0', () -> x.clause(number, 0));
        }
    }

    private static void outIs(String what, ClauseCourt x, String want) {
        due(what + ": shorter()", want.length(), x::shorter);
        for (int k = -1; k <= want.length(); k++) {
            int place = k;
            int due = k < 0 || k == want.length() ? NO_ELEMENT : want.charAt(k);
            due(what + ": out(" + k + ")", due, () -> x.out(place));
        }
    }

    private static String many(String part, int times) {
        return part.repeat(times);
    }

    private static void aNewObject() {
        due("NONE", -1, () -> ClauseCourt.NONE);
        ClauseCourt x = new ClauseCourt();
        counts("new", x, NONE, NONE, NONE, 0, 0, 0, 0, 0, 0, 0, 0, 0);
        due("new: fault(0)", 0, () -> x.fault(0));
        due("new: fault(1)", NONE, () -> x.fault(1));
        due("new: clause(1, 0)", NO_ELEMENT, () -> x.clause(1, 0));
        due("new: step(1, 0)", NO_ELEMENT, () -> x.step(1, 0));
        due("new: hint(0, 0)", 0, () -> x.hint(0, 0));
        due("new: hint(1, 0)", NO_ELEMENT, () -> x.hint(1, 0));
        due("new: out(0)", NO_ELEMENT, () -> x.out(0));
        due("new: takeShorter()", 0, x::takeShorter);
        outIs("new", x, "");
        due("new: weigh", 1, () -> x.weigh(false, true, true, 0));
        counts("new, weighed", x, 1, NONE, NONE, 0, 0, 0, 0, 0, 0, 0, 0, 0);
        ClauseCourt y = new ClauseCourt();
        due("new: a proof without a formula", 0, () -> proof(y, "150 -150 0 0", false));
        due("new: weigh that", 1, () -> y.weigh(false, false, false, 1));
        counts("new, with a proof", y, 1, 2, NONE, 0, 0, 0, 1, 0, 0, 2, 0, 0);
    }

    private static void feeding() {
        ClauseCourt x = new ClauseCourt();
        for (int i = 1; i <= 300; i++) {
            int bytes = 20 * i;
            due("feed " + i, bytes, () -> x.feed(0x61028003, 0, -1, Integer.MIN_VALUE, Integer.MAX_VALUE));
        }
        due("feed beyond 6,000", NONE, () -> x.feed(1, 2, 3, 4, 5));
        due("bytes then", 6000, () -> x.count(11));
        // 97, 2, 128 3 (which is 384): the highest byte is the first one.
        due("fault of the fed bytes", 2, () -> x.proof(6000, true));
        due("its place", 2, () -> x.fault(1));
        due("bytes behind the reading", 0, () -> x.count(11));
        due("feed anew", 20, () -> x.feed(1, 2, 3, 4, 5));
    }

    private static void faultOf(String what, int kind, int place, ClauseCourt x, Call call) {
        due(what, kind, call);
        due(what + ": fault(0)", kind, () -> x.fault(0));
        due(what + ": fault(1)", place, () -> x.fault(1));
        due(what + ": the tape", 0, () -> x.count(11));
    }

    private static void formulaFault(String text, int kind, int place) {
        ClauseCourt x = new ClauseCourt();
        faultOf("formula \"" + text + "\"", kind, place, x, () -> formula(x, text));
    }

    private static void formulas() {
        formulaFault("p cnf 0 0", 0, NONE);
        formulaFault("c a\n\r\tp  cnf\t150\r\n300 " + many("0 ", 300), 0, NONE);
        formulaFault(" p\n cnf\n2\n1\n1 \n -2\nc 5\n0\nc", 0, NONE);
        formulaFault("p cnf 000002 1 002 -0", 0, NONE);
        formulaFault("p cnf -0 00", 0, NONE);
        formulaFault("", 1, 0);
        formulaFault("c p cnf 0 0", 1, 11);
        formulaFault(" c\np cnf 0 0", 1, 1);
        formulaFault("p\ncnf 1 1\n", 1, 10);
        formulaFault("P cnf 0 0", 1, 0);
        formulaFault("pcnf 0 0", 1, 0);
        formulaFault("p cnff 0 0", 1, 2);
        formulaFault("p cn 0 0", 1, 2);
        formulaFault("p cnf", 1, 5);
        formulaFault("p cnf 1 \n", 1, 9);
        formulaFault("p cnf x 1", 1, 6);
        formulaFault("p cnf 0000001 1", 1, 6);
        formulaFault("p cnf 1 +1", 1, 8);
        formulaFault("p cnf - 1", 1, 6);
        formulaFault("p cnf 151 301", 2, 6);
        formulaFault("p cnf 999999 1", 2, 6);
        formulaFault("p cnf -1 1", 2, 6);
        formulaFault("p cnf 1 301", 2, 8);
        formulaFault("p cnf 1 -1", 2, 8);
        formulaFault("p cnf 2 1 1 2 ", 1, 14);
        formulaFault("p cnf 2 2 1 2 0", 1, 15);
        formulaFault("p cnf 2 1 1 2 0 0", 1, 16);
        formulaFault("p cnf 2 1 1 2 0\n c", 1, 17);
        formulaFault("p cnf 2 0 d", 1, 10);
        formulaFault("p cnf 2 1 1 d 0", 1, 12);
        formulaFault("p cnf 2 1 1 --2 0", 1, 12);
        formulaFault("p cnf 2 1 1 2- 0", 1, 12);
        formulaFault("p cnf 2 1 1 0000002 0", 1, 12);
        formulaFault("p cnf 2 1 1 \u00b2 0", 1, 12);
        formulaFault("p cnf 2 1 3 x", 2, 10);
        formulaFault("p cnf 2 1 1 -3 0", 2, 12);
        formulaFault("p cnf 0 1 1 0", 2, 10);
        formulaFault("p cnf 1 1 " + many("1 ", 40) + "0", 0, NONE);
        formulaFault("p cnf 1 1 " + many("1 ", 40) + "1 0", 3, 90);
        formulaFault("p cnf 1 1 " + many("1 ", 40) + "2 0", 2, 90);
        formulaFault("p cnf 1 1 " + many("1 ", 40) + "x 0", 1, 90);
        formulaFault("p cnf 1 50 " + many(many("1 ", 40) + "0 ", 50), 0, NONE);
        formulaFault("p cnf 1 51 " + many(many("1 ", 40) + "0 ", 50) + "0", 0, NONE);
        formulaFault("p cnf 1 51 " + many(many("1 ", 40) + "0 ", 50) + "1 0", 3, 11 + 50 * 82);
        formulaFault("p cnf 1 51 " + many(many("1 ", 40) + "0 ", 50) + "-2 0", 2, 11 + 50 * 82);

        ClauseCourt x = court(SQUARE, "1 0 0");
        due("weigh", 0, () -> x.weigh(true, true, false, 100));
        due("a faulty formula", 1, () -> formula(x, "p cnf 1 1 1"));
        counts("all stays", x, 0, NONE, 1, 96, 4, 1, 1, 0, 4, 2, 2, 0);
        feed(x, "p cnf 3 1 3 0");
        due("more than the tape has", ARGUMENT, () -> x.formula(21));
        due("below 0", ARGUMENT, () -> x.formula(-1));
        due("the least number", ARGUMENT, () -> x.formula(Integer.MIN_VALUE));
        due("the greatest number", ARGUMENT, () -> x.formula(Integer.MAX_VALUE));
        counts("nothing changes", x, 0, NONE, 1, 96, 4, 1, 1, 0, 4, 2, 2, 20);
        due("the fault before", 1, () -> x.fault(0));
        due("its place", 11, () -> x.fault(1));
        due("a formula", 0, () -> x.formula(13));
        counts("no steps, nothing weighed", x, NONE, NONE, NONE, 0, 0, 0, 0, 0, 1, 0, 3, 0);
        due("its clause", 3, () -> x.clause(1, 2));
        due("no other clause", NO_ELEMENT, () -> x.clause(2, 1));
    }

    private static void proofFault(String text, boolean bytes, int kind, int place) {
        ClauseCourt x = new ClauseCourt();
        faultOf("proof \"" + text + "\"" + (bytes ? " as bytes" : ""), kind, place, x, () -> proof(x, text, bytes));
    }

    private static void textProofs() {
        proofFault("", false, 0, NONE);
        proofFault("c 1\n", false, 0, NONE);
        proofFault("0", false, 0, NONE);
        proofFault("d 0 d 1\n2\tc\n0", false, 1, 10);
        proofFault("d 0 d 1\nc d d d\n2\r0", false, 0, NONE);
        proofFault("150 -150 0", false, 0, NONE);
        proofFault("1 -151 0", false, 2, 2);
        proofFault("1 2", false, 1, 3);
        proofFault("0 d \n", false, 1, 5);
        proofFault("1 d 0", false, 1, 2);
        proofFault("d d 1 0", false, 1, 2);
        proofFault("d1 0", false, 1, 0);
        proofFault("D 1 0", false, 1, 0);
        proofFault("a 1 0", false, 1, 0);
        proofFault("1 1000000 0", false, 1, 2);
        proofFault("1 100000 0", false, 2, 2);
        proofFault(many("0 ", 300), false, 0, NONE);
        proofFault(many("0 ", 300) + "0", false, 3, 600);
        proofFault(many("0 ", 300) + " d", false, 3, 601);
        proofFault(many("0 ", 300) + "x", false, 1, 600);
        proofFault(many("0 ", 300) + "151 0", false, 2, 600);
        proofFault(many("0 ", 300) + "-150", false, 3, 600);
        proofFault(many("0 ", 300) + "\nc 0", false, 0, NONE);
        proofFault("d " + many("1 ", 40) + "0", false, 0, NONE);
        proofFault("d " + many("1 ", 41) + "0", false, 3, 82);
        proofFault(many("1 ", 40) + "151 0", false, 2, 80);
        proofFault(many("d " + many("1 ", 40) + "0 ", 50) + "0 d 0", false, 0, NONE);
        proofFault(many("d " + many("1 ", 40) + "0 ", 50) + "0 d 5 0", false, 3, 50 * 84 + 4);
    }

    private static void byteProofs() {
        proofFault("", true, 0, NONE);
        proofFault("a\0d\0", true, 0, NONE);
        proofFault("a\2\3\u00ac\2\u00ad\2\0", true, 0, NONE);
        proofFault("a\2\u00ae\2\0", true, 2, 2);
        proofFault("a\2\u00ff\u007f\0", true, 2, 2);
        proofFault("a\1\0", true, 2, 1);
        proofFault("a\u0081\1\0", true, 0, NONE);
        proofFault("a\u0082\0\0", true, 1, 1);
        proofFault("a\u0082\u0080\1\0", true, 1, 1);
        proofFault("a\2\u0082", true, 1, 3);
        proofFault("a\2", true, 1, 2);
        proofFault("a", true, 1, 1);
        proofFault("a\0b\0", true, 1, 2);
        proofFault("\0", true, 1, 0);
        proofFault("a\0 ", true, 1, 2);
        proofFault("a\0\n", true, 1, 2);
        proofFault(many("a\0", 300), true, 0, NONE);
        proofFault(many("a\0", 300) + "d", true, 3, 600);
        proofFault(many("a\0", 300) + "e", true, 1, 600);
        proofFault("d" + many("\2", 40) + "\0", true, 0, NONE);
        proofFault("d" + many("\2", 40) + "\3\0", true, 3, 41);
        proofFault("d" + many("\2", 40) + "\1\0", true, 2, 41);
        proofFault("d" + many("\2", 40) + "\u0082\0", true, 1, 41);
        proofFault(many("a" + many("\2", 40) + "\0", 50) + "a\0", true, 0, NONE);
        proofFault(many("a" + many("\2", 40) + "\0", 50) + "a\2\0", true, 3, 50 * 42 + 1);

        ClauseCourt x = new ClauseCourt();
        due("a proof in bytes", 0, () -> proof(x, "a\2\3\u0080\1\u00ac\2\u00ad\2\2\0d\3\0", true));
        int[] literals = {0, 1, 5, 1, -1, 64, 150, -150, 0};
        for (int what = 0; what < literals.length; what++) {
            int place = what;
            due("step(1, " + what + ")", literals[what], () -> x.step(1, place));
        }
        due("a deletion", 1, () -> x.step(2, 0));
        due("its literal", -1, () -> x.step(2, 3));
    }

    private static void proofs() {
        textProofs();
        byteProofs();
        ClauseCourt x = court(SQUARE, "1 0 0");
        due("weigh", 0, () -> x.weigh(true, true, false, 100));
        due("a faulty proof", 2, () -> proof(x, "1 200 0", false));
        counts("all stays", x, 0, NONE, 1, 96, 4, 1, 1, 0, 4, 2, 2, 0);
        feed(x, "2 0");
        due("more than the tape has", ARGUMENT, () -> x.proof(21, false));
        due("below 0", ARGUMENT, () -> x.proof(-1, true));
        counts("nothing changes", x, 0, NONE, 1, 96, 4, 1, 1, 0, 4, 2, 2, 20);
        due("the fault before", 2, () -> x.fault(0));
        due("its place", 2, () -> x.fault(1));
        due("a proof", 0, () -> x.proof(3, false));
        counts("nothing weighed", x, NONE, NONE, NONE, 0, 0, 0, 0, 0, 4, 1, 2, 0);
        marks("nothing weighed", x, "00000");
        hints("nothing weighed", x, 0);
        hints("nothing weighed", x, 5);
    }

    private static void faults() {
        ClauseCourt x = new ClauseCourt();
        due("a fault", 1, () -> formula(x, "p cnf 0 0 0"));
        due("fault(0)", 1, () -> x.fault(0));
        due("fault(1)", 10, () -> x.fault(1));
        due("fault(2)", NO_ELEMENT, () -> x.fault(2));
        due("fault(-1)", NO_ELEMENT, () -> x.fault(-1));
        due("too much", ARGUMENT, () -> x.proof(1, false));
        due("fault(0) stays", 1, () -> x.fault(0));
        due("takeShorter is no reading", 0, x::takeShorter);
        due("fault(1) stays", 10, () -> x.fault(1));
        due("a good proof", 0, () -> x.proof(0, false));
        due("fault(0) of it", 0, () -> x.fault(0));
        due("fault(1) of it", NONE, () -> x.fault(1));
    }

    /** Needs each lemma; one of them is deleted while it is needed behind it no more. */
    private static void ladders() {
        ClauseCourt x = court(LADDER, LADDER_PROOF);
        for (int i = 0; i < 2; i++) {
            boolean backwards = i == 0;
            String what = backwards ? "ladder backwards" : "ladder forwards";
            due(what, 0, () -> x.weigh(backwards, false, false, 20000));
            counts(what, x, 0, NONE, 4, 19988, 8, 3, 3, 0, 8, 4, 7, 0);
            marks(what, x, "11111111111");
            hints(what, x, 0, 11, 7, 8);
            hints(what, x, 9, 1, 2);
            hints(what, x, 10, 9, 3, 4);
            hints(what, x, 11, 10, 5, 6);
            outIs(what, x, LADDER_PROOF);
        }
        due("just enough", 0, () -> x.weigh(true, false, false, 12));
        counts("just enough", x, 0, NONE, 4, 0, 8, 3, 3, 0);
        due("out backwards", 2, () -> x.weigh(true, false, false, 11));
        counts("out backwards", x, 2, 1, 4, 0, 6, 3, 2, 0);
        marks("out backwards", x, "00111111111");
        hints("out backwards", x, 10, 9, 3, 4);
        hints("out backwards", x, 9);
        due("out from nothing", 2, () -> x.weigh(true, false, false, 1));
        counts("out from nothing", x, 2, 0, NONE, 0, 0, 0, 0, 0);
        hints("out from nothing", x, 0);
        due("out forwards", 2, () -> x.weigh(false, false, false, 6));
        counts("out forwards", x, 2, 2, NONE, 0, 2, 0, 1, 0);
        hints("out forwards", x, 9, 1, 2);
        due("out forwards at last", 2, () -> x.weigh(false, false, false, 11));
        counts("out forwards at last", x, 2, 0, NONE, 0, 6, 2, 3, 0);
        outIs("out forwards at last", x, "1 2 0\n4 1 0\nd 2 1 0\n");
        due("fuel below 0", ARGUMENT, () -> x.weigh(true, true, true, -1));
        due("fuel above 20,000", ARGUMENT, () -> x.weigh(true, true, true, 20001));
        counts("nothing changes", x, 2, 0, NONE, 0, 6, 2, 3, 0);
    }

    private static void conflictAheadOfAll() {
        ClauseCourt x = court("p cnf 3 4 3 0 1 0 -1 2 0 -2 -1 0", "3 0");
        for (int i = 0; i < 2; i++) {
            boolean backwards = i == 0;
            due("ahead of all", 0, () -> x.weigh(backwards, true, false, 3));
            counts("ahead of all", x, 0, NONE, 0, 0, 3, 0, 0, 0);
            marks("ahead of all", x, "01110");
            hints("ahead of all", x, 0, 2, 3, 4);
            outIs("ahead of all", x, "");
        }
        due("too little", 2, () -> x.weigh(false, true, false, 2));
        counts("too little", x, 2, 0, NONE, 0, 0, 0, 0, 0);
        ClauseCourt y = court("p cnf 1 2 1 0 0", "");
        due("an empty clause", 0, () -> y.weigh(false, false, false, 1));
        hints("an empty clause", y, 0, 2);
        marks("an empty clause", y, "01");
        due("an empty clause, too late", 2, () -> y.weigh(false, false, false, 0));
    }

    private static void nothingContradicts() {
        ClauseCourt x = court("p cnf 2 1 1 2 0", "1 2 0");
        due("nothing contradicts", 1, () -> x.weigh(true, true, false, 20000));
        counts("nothing contradicts", x, 1, NONE, NONE, 20000, 0, 0, 0, 0);
        due("nothing contradicts forwards", 1, () -> x.weigh(false, true, false, 20000));
        counts("nothing contradicts forwards", x, 1, NONE, NONE, 19998, 1, 0, 1, 0);
        hints("nothing contradicts forwards", x, 2, 1);
    }

    private static void tautologies() {
        ClauseCourt x = court("p cnf 2 1 1 2 0", "2 1 -2 1 0");
        due("a tautology", 1, () -> x.weigh(false, false, false, 20000));
        // -2 and -1 become true, then 2 is false already: by no clause.
        counts("a tautology", x, 1, NONE, NONE, 19998, 0, 0, 1, 0);
        hints("a tautology", x, 2);
    }

    private static void rat() {
        ClauseCourt x = court("p cnf 2 2 1 2 0 -1 -2 0", "3 -1 0 -3 1 0");
        due("a new name", 1, () -> x.weigh(false, true, false, 20000));
        counts("a new name", x, 1, NONE, NONE, 19992, 0, 1, 0, 2);
        hints("a new name", x, 3);
        hints("a new name", x, 4, -3);
        marks("a new name", x, "0010");
        outIs("a new name", x, "3 -1 0\n");
        due("a new name without RAT", 1, () -> x.weigh(false, false, false, 20000));
        counts("a new name without RAT", x, 1, 1, NONE, 19997, 0, 0, 0, 0);

        ClauseCourt y = court("p cnf 4 4 -1 2 0 2 3 0 2 -3 0 -1 4 0", "1 0");
        due("a later one fails", 1, () -> y.weigh(false, true, false, 20000));
        counts("a later one fails", y, 1, 1, NONE, 19994, 3, 0, 0, 0);
        marks("a later one fails", y, "11100");
        hints("a later one fails", y, 5);
        due("a later one runs out", 2, () -> y.weigh(false, true, false, 5));
        counts("a later one runs out", y, 2, 1, NONE, 0, 3, 0, 0, 0);

        ClauseCourt z = court("p cnf 4 4 -1 2 0 2 3 0 2 -3 0 -1 4 0", "d 4 -1 0 1 0");
        due("without the later one", 1, () -> z.weigh(false, true, false, 20000));
        // Behind the addition 1 and 2 are true from nothing.
        counts("without the later one", z, 1, NONE, NONE, 19994, 3, 0, 0, 1);
        hints("without the later one", z, 5, -1, 2, 3);
        outIs("without the later one", z, "d 4 -1 0\n");

        ClauseCourt e = court("p cnf 2 1 1 2 0", "0");
        due("no first literal", 1, () -> e.weigh(false, true, false, 20000));
        counts("no first literal", e, 1, 1, NONE, 20000, 0, 0, 0, 0);
        ClauseCourt s = court("p cnf 2 2 -2 1 0 -1 0", "2 3 0 3 2 0");
        due("only the first literal", 1, () -> s.weigh(false, true, false, 20000));
        // -1 and -2 from nothing; 2 3 needs RAT on 2 with clause 1: -2 -3 then -1, no conflict.
        counts("only the first literal", s, 1, 1, NONE, 20000 - 2 - 3 - 3, 0, 0, 0, 0);
    }

    private static void theGreatestVariable() {
        ClauseCourt x = court("p cnf 150 3 149 150 0 149 -150 0 -149 150 0", "150 0 -150 0");
        due("the greatest variable", 1, () -> x.weigh(true, false, false, 20000));
        // 150 by 4, then 149 by 2; then 5 is false.
        hints("the greatest variable", x, 0, 4, 5);
        counts("the greatest variable", x, 1, 2, 2, 20000 - 2 - 2 - 2, 0, 2, 0, 0);
        hints("the greatest variable", x, 5);
    }

    private static void markedAhead() {
        // Lemma 5 uses 3 and 4; so 1 comes from 3 ahead of 2 when the next one is weighed.
        ClauseCourt x = court("p cnf 4 4 -4 1 0 -4 2 0 -3 1 0 -1 -3 0", "-3 0 -4 -3 1 0");
        due("marked ahead", 1, () -> x.weigh(false, false, false, 20000));
        hints("marked ahead", x, 5, 3, 4);
        // Assumed 4, 3, -1: clause 1 is false by its number, but clause 3 is marked.
        hints("marked ahead", x, 6, 3);
        marks("marked ahead", x, "001100");
    }

    private static void deletions() {
        // Clauses 1 and 3 are alike; the later one goes, then the first, then there is none.
        ClauseCourt x = court("p cnf 3 4 1 2 0 1 2 3 0 2 1 1 0 -1 0", "d 2 1 2 0 d 1 2 0 d 1 2 0 d 1 0");
        due("deletions", 1, () -> x.weigh(false, false, false, 20000));
        // From nothing: -1 2, -1 2, then -1 three times more.
        counts("deletions", x, 1, NONE, NONE, 20000 - 2 - 2 - 1 - 1 - 1, 0, 0, 0, 0);
        outIs("deletions", x, "d 2 1 0\nd 1 2 0\n");
        due("units kept", 1, () -> x.weigh(false, false, true, 20000));
        // 3 is no reason and goes; then 1 is one and stays.
        counts("units kept", x, 1, NONE, NONE, 20000 - 5 * 2, 0, 0, 0, 0);
        outIs("units kept", x, "d 2 1 0\n");

        ClauseCourt y = court("p cnf 3 3 1 0 -1 2 0 -2 3 0", "d 1 0 -3 0");
        due("a unit kept", 1, () -> y.weigh(true, false, true, 20000));
        counts("a unit kept", y, 1, 2, 2, 20000 - 9 - 3, 3, 1, 0, 0);
        hints("a unit kept", y, 0, 1, 2, 3, 4);
        outIs("a unit kept", y, "-3 0\n");
        due("a unit gone", 1, () -> y.weigh(true, false, false, 20000));
        counts("a unit gone", y, 1, NONE, NONE, 20000 - 3 - 0 - 3, 0, 0, 0, 0);
    }

    private static void clausesAndSteps() {
        ClauseCourt x = court("p cnf 150 3 150 -3 150 -150 3 -3 0 0 -1 0", "d 1 2 1 0 2 -2 2 0 0");
        int[][] clauses = {{4, 150, -3, -150, 3, 0, 0}, {0, 0, 0}, {1, -1, 0}, {2, 2, -2, 0}, {0, 0}};
        for (int k = 1; k <= clauses.length; k++) {
            for (int what = 1; what <= clauses[k - 1].length; what++) {
                int number = k;
                int place = what;
                due("clause(" + k + ", " + what + ")", clauses[k - 1][what - 1], () -> x.clause(number, place));
            }
        }
        due("clause(0, 1)", NO_ELEMENT, () -> x.clause(0, 1));
        due("clause(-1, 1)", NO_ELEMENT, () -> x.clause(-1, 1));
        due("clause(6, 1)", NO_ELEMENT, () -> x.clause(6, 1));
        due("clause(1, -1)", NO_ELEMENT, () -> x.clause(1, -1));
        due("clause(1, least)", NO_ELEMENT, () -> x.clause(1, Integer.MIN_VALUE));
        due("clause(1, greatest)", 0, () -> x.clause(1, Integer.MAX_VALUE));
        int[][] steps = {{1, 0, 2, 1, 2, 0, 0}, {0, 4, 2, 2, -2, 0}, {0, 5, 0, 0}};
        for (int i = 1; i <= steps.length; i++) {
            for (int what = 0; what < steps[i - 1].length; what++) {
                int number = i;
                int place = what;
                due("step(" + i + ", " + what + ")", steps[i - 1][what], () -> x.step(number, place));
            }
        }
        due("step(0, 0)", NO_ELEMENT, () -> x.step(0, 0));
        due("step(4, 0)", NO_ELEMENT, () -> x.step(4, 0));
        due("step(-1, 0)", NO_ELEMENT, () -> x.step(-1, 0));
        due("step(1, -1)", NO_ELEMENT, () -> x.step(1, -1));
        due("step(1, greatest)", 0, () -> x.step(1, Integer.MAX_VALUE));
        due("count(-1)", NO_ELEMENT, () -> x.count(-1));
        due("count(12)", NO_ELEMENT, () -> x.count(12));
        due("hint(-1, 0)", NO_ELEMENT, () -> x.hint(-1, 0));
        due("hint(6, 0)", NO_ELEMENT, () -> x.hint(6, 0));
        due("hint(5, -1)", NO_ELEMENT, () -> x.hint(5, -1));
        due("hint(0, -1)", NO_ELEMENT, () -> x.hint(0, -1));
        due("hint(0, greatest)", 0, () -> x.hint(0, Integer.MAX_VALUE));
    }

    /** A chain of 99 implications, of which each lemma needs 80: room for 50 of them. */
    private static void hintsBeyondTheirRoom() {
        StringBuilder f = new StringBuilder("p cnf 100 99\n");
        for (int i = 1; i < 100; i++) {
            f.append(-i).append(' ').append(i + 1).append(" 0\n");
        }
        ClauseCourt x = court(f.toString(), many("-1 101 81 0 d 1 0\n", 60));
        due("many hints", 1, () -> x.weigh(false, false, false, 20000));
        // 1, -101, -81 and 79 more become true by 1 .. 79, and 80 conflicts; these are marked, and
        // so come ahead of the first lemma, which is false at once, each time again.
        counts("many hints", x, 1, NONE, NONE, 20000 - 60 * 82, 80, 0, 60, 0);
        due("the first lemma's 80th hint", 80, () -> x.hint(100, 79));
        due("the first lemma has no 81st", 0, () -> x.hint(100, 80));
        due("the 4,000th hint", 80, () -> x.hint(149, 79));
        due("no 4,001st hint", 0, () -> x.hint(150, 0));
    }

    private static void shortening() {
        ClauseCourt x = court("p cnf 4 5 1 2 0 1 -2 0 -1 2 0 -1 -2 0 3 4 0", "3 4 5 0 d 5 4 3 0 d 4 3 3 0 d 1 2 3 0 1 0 2 0");
        due("before a weigh", 0, x::shorter);
        due("weigh", 0, () -> x.weigh(true, false, false, 20000));
        outIs("a clause of the formula goes", x, "d 4 3 0\n1 0\n");
        due("it is taken", 2, x::takeShorter);
        counts("taken", x, NONE, NONE, NONE, 0, 0, 0, 0, 0, 5, 2, 4, 0);
        due("its deletion", 1, () -> x.step(1, 0));
        due("its addition", 6, () -> x.step(2, 1));
        due("no weigh then", 0, () -> x.clause(6, 0));
        due("OUT stays", 'd', () -> x.out(0));
        due("weigh what was taken", 0, () -> x.weigh(false, false, false, 20000));
        due("its conflict", 2, () -> x.count(2));
        due("a new formula", 0, () -> formula(x, "p cnf 0 0"));
        due("OUT stays for it", '\n', () -> x.out(11));
        due("taken for the new formula", 2, x::takeShorter);
        due("its addition there", 1, () -> x.step(2, 1));
        due("none without a weigh", 0, x::shorter);
        due("OUT is empty", NO_ELEMENT, () -> x.out(0));
        due("nothing is taken", 0, x::takeShorter);
        due("no steps", 0, () -> x.count(9));
    }

    /** A formula of rows that a deletion each makes OUT just as long as it may be, or a byte longer. */
    private static void longShortening() {
        for (int more = 0; more <= 1; more++) {
            String row = "-100 -101 -102 -103 -104 -105 -106 -107 -108 -109 -110 -111 -112 -113 -114 -115 -116 -117 0\n";
            StringBuilder last = new StringBuilder();
            for (int i = 100; i <= 132; i++) {
                last.append(-i).append(' ');
            }
            String rows = many(row, 62) + last + (more == 0 ? "11 " : "111 ") + "0\n";
            StringBuilder bytes = new StringBuilder();
            for (String line : rows.split("\n")) {
                bytes.append('d');
                for (String literal : line.split(" ")) {
                    int l = Integer.parseInt(literal);
                    int u = l >= 0 ? 2 * l : 1 - 2 * l;
                    bytes.append(u < 128 ? "" + (char) u : "" + (char) (u % 128 + 128) + (char) (u / 128));
                }
            }
            ClauseCourt x = new ClauseCourt();
            due("long rows", 0, () -> formula(x, "p cnf 150 63\n" + rows));
            due("long deletions", 0, () -> proof(x, bytes.toString(), true));
            due("nothing contradicts", 1, () -> x.weigh(true, false, false, 0));
            boolean fits = more == 0;
            due("long shorter", fits ? 6000 : 6001, x::shorter);
            due("its first byte", 'd', () -> x.out(0));
            due("its last byte that is kept", fits ? '\n' : '0', () -> x.out(5999));
            due("none is kept behind it", NO_ELEMENT, () -> x.out(6000));
            due("long takeShorter", fits ? 63 : NONE, x::takeShorter);
            due("weighed or not", fits ? NONE : 1, () -> x.count(0));
            due("the last step's literals", 34, () -> x.step(63, 2));
        }
    }

    public static void main(String[] args) {
        aNewObject();
        feeding();
        formulas();
        proofs();
        faults();
        ladders();
        conflictAheadOfAll();
        nothingContradicts();
        tautologies();
        rat();
        theGreatestVariable();
        markedAhead();
        deletions();
        clausesAndSteps();
        hintsBeyondTheirRoom();
        shortening();
        longShortening();
        System.out.println(wrong == 0 ? asked + " answers are as due" : wrong + " of " + asked + " answers are not as due");
        if (wrong != 0) {
            System.exit(1);
        }
    }
}
