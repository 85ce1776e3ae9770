import java.util.ArrayList;
import java.util.Arrays;
import java.util.Collections;
import java.util.LinkedHashSet;
import java.util.List;
import java.util.NoSuchElementException;
import java.util.Random;
import java.util.TreeMap;

/**
 * Runs of calls on a ClauseCourt and on a plain model of the document side by side: all answers must
 * be alike. The model looks at every clause anew for each literal, and keeps everything in lists.
 */
public final class ModelTests {
    private static final TreeMap<String, Integer> seen = new TreeMap<>();
    private static int wrong = 0;
    private static String story = "";

    /** What the document says, as plainly as it can be written. */
    static final class Model {
        static final class Step {
            boolean deletion;
            List<Integer> literals = new ArrayList<>();
            int number;
        }

        static final class Fault extends Exception {
            private static final long serialVersionUID = 1L;
            final int kind;
            final int place;

            Fault(int kind, int place) {
                this.kind = kind;
                this.place = place;
            }
        }

        static final class Out extends Exception {
            private static final long serialVersionUID = 1L;
        }

        static final class Token {
            final String text;
            final int place;

            Token(String text, int place) {
                this.text = text;
                this.place = place;
            }

            boolean isNumber() {
                return text.matches("-?[0-9]{1,6}");
            }

            int number() {
                return Integer.parseInt(text);
            }
        }

        List<Integer> tape = new ArrayList<>();
        List<List<Integer>> formula = new ArrayList<>();
        List<Step> steps = new ArrayList<>();
        List<List<Integer>> clauses = new ArrayList<>();
        int v = 0;
        int fault = 0;
        int place = -1;
        List<Integer> text = new ArrayList<>();

        int verdict = -1;
        int failed = -1;
        int conflictStep = -1;
        int fuel = 0;
        int rups = 0;
        int rats = 0;
        boolean[] active = new boolean[0];
        boolean[] marked = new boolean[0];
        int[] removed = new int[0];
        int hintsKept = 0;
        TreeMap<Integer, List<Integer>> hints = new TreeMap<>();

        // The latest propagation.
        List<Integer> trail = new ArrayList<>();
        List<Integer> reasons = new ArrayList<>();
        int conflict;
        List<Integer> unitReasons = new ArrayList<>();

        int feed(int... words) {
            if (tape.size() + 20 > 6000) {
                return -1;
            }
            for (int word : words) {
                for (int shift = 24; shift >= 0; shift -= 8) {
                    tape.add(word >> shift & 255);
                }
            }
            return tape.size();
        }

        private List<Token> tokens(List<Integer> bytes) {
            List<Token> found = new ArrayList<>();
            int lineStart = 0;
            while (lineStart < bytes.size()) {
                int lineEnd = lineStart;
                while (lineEnd < bytes.size() && bytes.get(lineEnd) != 10) {
                    lineEnd++;
                }
                if (bytes.get(lineStart) != 'c') {
                    StringBuilder token = new StringBuilder();
                    for (int i = lineStart; i <= lineEnd; i++) {
                        boolean gap = i == lineEnd || List.of(32, 9, 13).contains(bytes.get(i));
                        if (!gap) {
                            token.append((char) (int) bytes.get(i));
                        } else if (token.length() > 0) {
                            found.add(new Token(token.toString(), i - token.length()));
                            token.setLength(0);
                        }
                    }
                }
                lineStart = lineEnd + 1;
            }
            return found;
        }

        private static void check(boolean good, int kind, int place) throws Fault {
            if (!good) {
                throw new Fault(kind, place);
            }
        }

        private int next;
        private int inText;

        private List<Integer> row(List<Token> tokens, int length, int bound) throws Fault {
            LinkedHashSet<Integer> row = new LinkedHashSet<>();
            int inRow = 0;
            while (true) {
                check(next < tokens.size(), 1, length);
                Token token = tokens.get(next++);
                check(token.isNumber(), 1, token.place);
                check(Math.abs(token.number()) <= bound, 2, token.place);
                if (token.number() == 0) {
                    return new ArrayList<>(row);
                }
                check(++inRow <= 40, 3, token.place);
                check(++inText <= 2000, 3, token.place);
                row.add(token.number());
            }
        }

        int formula(int n) {
            if (n < 0 || n > tape.size()) {
                throw new IllegalArgumentException();
            }
            List<Integer> bytes = new ArrayList<>(tape.subList(0, n));
            tape.clear();
            try {
                List<Token> tokens = tokens(bytes);
                next = 0;
                inText = 0;
                int[] head = new int[4];
                for (int i = 0; i < 4; i++) {
                    check(next < tokens.size(), 1, n);
                    Token token = tokens.get(next++);
                    if (i < 2) {
                        check(token.text.equals(i == 0 ? "p" : "cnf"), 1, token.place);
                    } else {
                        check(token.isNumber(), 1, token.place);
                        head[i] = token.number();
                        check(head[i] >= 0 && head[i] <= (i == 2 ? 150 : 300), 2, token.place);
                    }
                }
                List<List<Integer>> read = new ArrayList<>();
                for (int i = 0; i < head[3]; i++) {
                    read.add(row(tokens, n, head[2]));
                }
                check(next == tokens.size(), 1, next < tokens.size() ? tokens.get(next).place : 0);
                formula = read;
                v = head[2];
                take(new ArrayList<>());
                fault = 0;
                place = -1;
            } catch (Fault f) {
                fault = f.kind;
                place = f.place;
            }
            return fault;
        }

        private List<Step> textSteps(List<Integer> bytes) throws Fault {
            List<Token> tokens = tokens(bytes);
            List<Step> read = new ArrayList<>();
            next = 0;
            inText = 0;
            while (next < tokens.size()) {
                Token token = tokens.get(next);
                Step step = new Step();
                step.deletion = token.text.equals("d");
                if (read.size() == 300) {
                    check(step.deletion || token.isNumber(), 1, token.place);
                    check(step.deletion || Math.abs(token.number()) <= 150, 2, token.place);
                    throw new Fault(3, token.place);
                }
                if (step.deletion) {
                    next++;
                }
                step.literals = row(tokens, bytes.size(), 150);
                read.add(step);
            }
            return read;
        }

        private List<Step> byteSteps(List<Integer> bytes) throws Fault {
            List<Step> read = new ArrayList<>();
            int all = 0;
            int at = 0;
            while (at < bytes.size()) {
                int first = bytes.get(at);
                check(first == 97 || first == 100, 1, at);
                check(read.size() < 300, 3, at);
                at++;
                LinkedHashSet<Integer> row = new LinkedHashSet<>();
                int inRow = 0;
                while (true) {
                    check(at < bytes.size(), 1, bytes.size());
                    int u = bytes.get(at);
                    if (u == 0) {
                        at++;
                        break;
                    }
                    int start = at++;
                    if (u >= 128) {
                        check(at < bytes.size(), 1, bytes.size());
                        int high = bytes.get(at++);
                        check(high != 0 && high < 128, 1, start);
                        u = (u & 127) | high << 7;
                    }
                    check(u >= 2 && u <= 301, 2, start);
                    check(++inRow <= 40 && ++all <= 2000, 3, start);
                    row.add(u % 2 == 0 ? u / 2 : -(u - 1) / 2);
                }
                Step step = new Step();
                step.deletion = first == 100;
                step.literals = new ArrayList<>(row);
                read.add(step);
            }
            return read;
        }

        int proof(int n, boolean bytes) {
            if (n < 0 || n > tape.size()) {
                throw new IllegalArgumentException();
            }
            List<Integer> source = new ArrayList<>(tape.subList(0, n));
            tape.clear();
            try {
                take(bytes ? byteSteps(source) : textSteps(source));
                fault = 0;
                place = -1;
            } catch (Fault f) {
                fault = f.kind;
                place = f.place;
            }
            return fault;
        }

        private void take(List<Step> read) {
            steps = read;
            clauses = new ArrayList<>();
            clauses.add(List.of());
            clauses.addAll(formula);
            for (Step step : steps) {
                if (!step.deletion) {
                    step.number = clauses.size();
                    clauses.add(step.literals);
                }
            }
            forget();
        }

        private void forget() {
            verdict = -1;
            failed = -1;
            conflictStep = -1;
            fuel = 0;
            rups = 0;
            rats = 0;
            active = new boolean[clauses.size()];
            marked = new boolean[clauses.size()];
            removed = new int[steps.size() + 1];
            hints = new TreeMap<>();
            hintsKept = 0;
        }

        int fault(int what) {
            if (what < 0 || what > 1) {
                throw new NoSuchElementException();
            }
            return what == 0 ? fault : place;
        }

        private void becomeTrue(int literal, int reason) throws Out {
            if (fuel == 0) {
                throw new Out();
            }
            fuel--;
            trail.add(literal);
            reasons.add(reason);
        }

        /** The first active clause with no true literal and at most one that is not false; or 0. */
        private int firstClause() {
            for (int group = 0; group < 2; group++) {
                for (int k = 1; k < clauses.size(); k++) {
                    if (active[k] && marked[k] == (group == 0)) {
                        int trues = 0;
                        int opens = 0;
                        for (int literal : clauses.get(k)) {
                            trues += trail.contains(literal) ? 1 : 0;
                            opens += trail.contains(-literal) ? 0 : 1;
                        }
                        if (trues == 0 && opens <= 1) {
                            return k;
                        }
                    }
                }
            }
            return 0;
        }

        private boolean conflicts(List<Integer> assumptions) throws Out {
            trail.clear();
            reasons.clear();
            conflict = 0;
            for (int literal : assumptions) {
                if (trail.contains(-literal)) {
                    return true;
                }
                if (!trail.contains(literal)) {
                    becomeTrue(literal, 0);
                }
            }
            while (true) {
                int k = firstClause();
                if (k == 0) {
                    return false;
                }
                int open = 0;
                for (int literal : clauses.get(k)) {
                    open = trail.contains(-literal) ? open : literal;
                }
                if (open == 0) {
                    conflict = k;
                    return true;
                }
                becomeTrue(open, k);
            }
        }

        private List<Integer> used() {
            List<Integer> found = new ArrayList<>();
            if (conflict == 0) {
                return found;
            }
            found.add(conflict);
            for (int t = trail.size() - 1; t >= 0; t--) {
                boolean wanted = false;
                for (int k : found) {
                    wanted |= clauses.get(k).contains(-trail.get(t));
                }
                if (wanted && reasons.get(t) != 0) {
                    found.add(reasons.get(t));
                }
            }
            Collections.reverse(found);
            return found;
        }

        private void markAll(List<Integer> numbers) {
            for (int k : numbers) {
                marked[k] = true;
            }
        }

        private void keepHints(int k, List<Integer> list) {
            List<Integer> kept = new ArrayList<>();
            for (int h : list) {
                if (hintsKept < 4000) {
                    kept.add(h);
                    hintsKept++;
                }
            }
            hints.put(k, kept);
        }

        private static List<Integer> opposites(List<Integer> literals) {
            List<Integer> list = new ArrayList<>();
            for (int literal : literals) {
                list.add(-literal);
            }
            return list;
        }

        private boolean holds(int k, boolean rat) throws Out {
            List<Integer> lemma = clauses.get(k);
            if (conflicts(opposites(lemma))) {
                markAll(used());
                keepHints(k, used());
                rups++;
                return true;
            }
            if (!rat || lemma.isEmpty()) {
                return false;
            }
            int p = lemma.get(0);
            List<Integer> list = new ArrayList<>();
            for (int d = 1; d < clauses.size(); d++) {
                if (active[d] && clauses.get(d).contains(-p)) {
                    List<Integer> others = new ArrayList<>(clauses.get(d));
                    others.remove((Integer) (-p));
                    List<Integer> assumptions = opposites(lemma);
                    assumptions.addAll(opposites(others));
                    if (!conflicts(assumptions)) {
                        return false;
                    }
                    list.add(-d);
                    list.addAll(used());
                    markAll(used());
                    marked[d] = true;
                }
            }
            keepHints(k, list);
            rats++;
            return true;
        }

        private boolean contradicts(int step) throws Out {
            failed = 0;
            boolean found = conflicts(List.of());
            failed = -1;
            unitReasons = new ArrayList<>(reasons);
            if (found) {
                conflictStep = step;
                markAll(used());
                keepHints(0, used());
            }
            return found;
        }

        private void delete(int i, boolean units) {
            int found = 0;
            for (int k = 1; k < clauses.size(); k++) {
                boolean same = clauses.get(k).size() == steps.get(i - 1).literals.size()
                        && clauses.get(k).containsAll(steps.get(i - 1).literals);
                if (active[k] && same) {
                    found = k;
                }
            }
            if (found != 0 && !(units && unitReasons.contains(found))) {
                active[found] = false;
                removed[i] = found;
            }
        }

        private boolean weighedWell(int i, boolean rat) throws Out {
            failed = i;
            boolean good = holds(steps.get(i - 1).number, rat);
            if (good) {
                failed = -1;
            }
            return good;
        }

        private int judge(boolean backwards, boolean rat, boolean units) throws Out {
            boolean found = contradicts(0);
            for (int i = 1; i <= steps.size() && !found; i++) {
                Step step = steps.get(i - 1);
                if (step.deletion) {
                    delete(i, units);
                } else {
                    if (!backwards && !weighedWell(i, rat)) {
                        return 1;
                    }
                    active[step.number] = true;
                }
                found = contradicts(i);
            }
            if (!found) {
                return 1;
            }
            for (int i = conflictStep; backwards && i >= 1; i--) {
                Step step = steps.get(i - 1);
                if (step.deletion) {
                    if (removed[i] != 0) {
                        active[removed[i]] = true;
                    }
                } else {
                    active[step.number] = false;
                    if (marked[step.number] && !weighedWell(i, rat)) {
                        return 1;
                    }
                }
            }
            return 0;
        }

        int weigh(boolean backwards, boolean rat, boolean units, int fuelGiven) {
            if (fuelGiven < 0 || fuelGiven > 20000) {
                throw new IllegalArgumentException();
            }
            if (clauses.isEmpty()) {
                take(steps);
            }
            forget();
            fuel = fuelGiven;
            for (int k = 1; k <= formula.size(); k++) {
                active[k] = true;
            }
            try {
                verdict = judge(backwards, rat, units);
            } catch (Out out) {
                verdict = 2;
            }
            return verdict;
        }

        int count(int what) {
            int inFormula = 0;
            int inProof = 0;
            for (int k = 1; k < marked.length; k++) {
                if (marked[k]) {
                    inFormula += k <= formula.size() ? 1 : 0;
                    inProof += k > formula.size() ? 1 : 0;
                }
            }
            int[] all = {verdict, failed, conflictStep, fuel, inFormula, inProof, rups, rats,
                formula.size(), steps.size(), v, tape.size()};
            if (what < 0 || what >= all.length) {
                throw new NoSuchElementException();
            }
            return all[what];
        }

        private static int of(List<Integer> list, int i) {
            return i < list.size() ? list.get(i) : 0;
        }

        int clause(int k, int what) {
            if (k < 1 || k >= clauses.size() || what < 0) {
                throw new NoSuchElementException();
            }
            return what == 0 ? (marked[k] ? 1 : 0) : what == 1 ? clauses.get(k).size() : of(clauses.get(k), what - 2);
        }

        int step(int i, int what) {
            if (i < 1 || i > steps.size() || what < 0) {
                throw new NoSuchElementException();
            }
            Step s = steps.get(i - 1);
            int[] head = {s.deletion ? 1 : 0, s.number, s.literals.size()};
            return what < 3 ? head[what] : of(s.literals, what - 3);
        }

        int hint(int k, int j) {
            if (k < 0 || k >= Math.max(1, clauses.size()) || j < 0) {
                throw new NoSuchElementException();
            }
            return of(hints.getOrDefault(k, List.of()), j);
        }

        int shorter() {
            StringBuilder b = new StringBuilder();
            int last = verdict == -1 ? 0 : conflictStep == -1 ? steps.size() : conflictStep;
            for (int i = 1; i <= last; i++) {
                Step s = steps.get(i - 1);
                boolean stays = s.deletion
                        ? removed[i] != 0 && (removed[i] <= formula.size() || marked[removed[i]])
                        : marked[s.number];
                if (stays) {
                    b.append(s.deletion ? "d " : "");
                    for (int literal : s.literals) {
                        b.append(literal).append(' ');
                    }
                    b.append("0\n");
                }
            }
            text = new ArrayList<>();
            for (char c : b.toString().toCharArray()) {
                text.add((int) c);
            }
            return text.size();
        }

        int out(int k) {
            if (k < 0 || k >= Math.min(6000, text.size())) {
                throw new NoSuchElementException();
            }
            return text.get(k);
        }

        int takeShorter() {
            if (text.size() > 6000) {
                return -1;
            }
            try {
                take(textSteps(text));
            } catch (Fault f) {
                throw new IllegalStateException(f);
            }
            return steps.size();
        }
    }

    interface Call {
        int on();
    }

    private static String answer(Call call) {
        try {
            return Integer.toString(call.on());
        } catch (IllegalArgumentException e) {
            return "throws.IllegalArgumentException";
        } catch (NoSuchElementException e) {
            return "throws.NoSuchElementException";
        }
    }

    private static int same(String what, Call real, Call model) {
        String got = answer(real);
        String due = answer(model);
        if (!got.equals(due)) {
            wrong++;
            if (wrong <= 20) {
                System.out.println(what + " answered " + got + ", the model says " + due + "\n" + story);
            }
        }
        return due.startsWith("throws") ? 0 : Integer.parseInt(due);
    }

    /** One court and its model. */
    static final class Pair {
        final ClauseCourt real = new ClauseCourt();
        final Model model = new Model();

        void feed(byte[] bytes) {
            for (int i = 0; i < bytes.length; i += 20) {
                int[] w = new int[5];
                for (int j = 0; j < 20; j++) {
                    int b = i + j < bytes.length ? bytes[i + j] & 255 : ' ';
                    w[j / 4] = w[j / 4] << 8 | b;
                }
                same("feed", () -> real.feed(w[0], w[1], w[2], w[3], w[4]), () -> model.feed(w));
            }
        }

        int formula(byte[] bytes) {
            feed(bytes);
            int kind = same("formula", () -> real.formula(bytes.length), () -> model.formula(bytes.length));
            askFault();
            tally("formula fault " + kind);
            return kind;
        }

        int proof(byte[] bytes, boolean asBytes) {
            feed(bytes);
            int kind = same("proof", () -> real.proof(bytes.length, asBytes),
                    () -> model.proof(bytes.length, asBytes));
            askFault();
            tally((asBytes ? "byte" : "text") + " proof fault " + kind);
            return kind;
        }

        void askFault() {
            for (int what = -1; what <= 2; what++) {
                int w = what;
                same("fault " + w, () -> real.fault(w), () -> model.fault(w));
            }
        }

        void weigh(boolean backwards, boolean rat, boolean units, int fuel) {
            int verdict = same("weigh", () -> real.weigh(backwards, rat, units, fuel),
                    () -> model.weigh(backwards, rat, units, fuel));
            tally("verdict " + verdict + (backwards ? " backwards" : " forwards"));
            tally(model.rats > 0 ? "with rat" : "without rat");
            tally(model.hintsKept == 4000 ? "hints full" : "hints kept");
            for (int gone : model.removed) {
                tally(gone == 0 ? "no removal" : "removal");
            }
            askAll();
        }

        void askAll() {
            for (int what = -2; what <= 13; what++) {
                int w = what;
                same("count " + w, () -> real.count(w), () -> model.count(w));
            }
            for (int k = -1; k <= model.clauses.size() + 1; k++) {
                int number = k;
                int size = k > 0 && k < model.clauses.size() ? model.clauses.get(k).size() : 0;
                for (int what = -1; what <= size + 3; what++) {
                    int w = what;
                    same("clause " + k + " " + w, () -> real.clause(number, w), () -> model.clause(number, w));
                }
                int hints = model.hints.getOrDefault(k, List.of()).size();
                for (int j = -1; j <= hints + 1; j++) {
                    int h = j;
                    same("hint " + k + " " + h, () -> real.hint(number, h), () -> model.hint(number, h));
                }
            }
            for (int i = -1; i <= model.steps.size() + 1; i++) {
                int number = i;
                int size = i > 0 && i <= model.steps.size() ? model.steps.get(i - 1).literals.size() : 0;
                for (int what = -1; what <= size + 4; what++) {
                    int w = what;
                    same("step " + i + " " + w, () -> real.step(number, w), () -> model.step(number, w));
                }
            }
            askOut();
        }

        void askOut() {
            for (int k = -1; k <= Math.min(6001, model.text.size() + 1); k++) {
                int place = k;
                same("out " + k, () -> real.out(place), () -> model.out(place));
            }
        }

        void shorten() {
            int length = same("shorter", real::shorter, model::shorter);
            tally(length > 6000 ? "a long OUT" : length == 0 ? "an empty OUT" : "an OUT");
            askOut();
        }

        void take() {
            same("takeShorter", real::takeShorter, model::takeShorter);
            askAll();
        }
    }

    private static void tally(String what) {
        seen.merge(what, 1, Integer::sum);
    }

    private static byte[] bytesOf(String text) {
        byte[] bytes = new byte[text.length()];
        for (int i = 0; i < bytes.length; i++) {
            bytes[i] = (byte) text.charAt(i);
        }
        return bytes;
    }

    private static int[] row(Random random, int variables, int most) {
        int[] row = new int[random.nextInt(most + 1)];
        for (int i = 0; i < row.length; i++) {
            row[i] = (1 + random.nextInt(variables)) * (random.nextBoolean() ? 1 : -1);
        }
        return row;
    }

    private static String textOf(int[] row) {
        StringBuilder b = new StringBuilder();
        for (int literal : row) {
            b.append(literal).append(' ');
        }
        return b.append("0\n").toString();
    }

    private static String bytesTextOf(boolean deletion, int[] row) {
        StringBuilder b = new StringBuilder(deletion ? "d" : "a");
        for (int literal : row) {
            int u = literal > 0 ? 2 * literal : 1 - 2 * literal;
            if (u >= 128) {
                b.append((char) (u % 128 + 128)).append((char) (u / 128));
            } else {
                b.append((char) u);
            }
        }
        return b.append((char) 0).toString();
    }

    private static int[] shuffled(Random random, int[] row) {
        List<Integer> list = new ArrayList<>();
        for (int literal : row) {
            list.add(literal);
        }
        Collections.shuffle(list, random);
        return list.stream().mapToInt(i -> i).toArray();
    }

    /** A formula and a proof whose clauses are few enough to hit one another often. */
    private static final class Sample {
        final String formula;
        final String text;
        final String bytes;

        Sample(Random random, int variables, int clauses, int steps, int most) {
            StringBuilder f = new StringBuilder("p cnf ").append(variables).append(' ').append(clauses).append('\n');
            List<int[]> known = new ArrayList<>();
            for (int i = 0; i < clauses; i++) {
                int[] row = row(random, variables, most);
                if (row.length < 2 && random.nextInt(8) != 0) {
                    row = row(random, variables, most);
                }
                if (row.length == 0) {
                    row = new int[] {1, 2 - 3 * random.nextInt(2)};
                }
                known.add(row);
                f.append(textOf(row));
            }
            StringBuilder t = new StringBuilder();
            StringBuilder b = new StringBuilder();
            for (int i = 0; i < steps; i++) {
                boolean deletion = random.nextInt(3) == 0;
                int[] row = row(random, Math.min(150, variables + random.nextInt(2)), most);
                if (row.length > 2 && random.nextBoolean()) {
                    row = Arrays.copyOf(row, 2);
                }
                if (random.nextInt(deletion ? 5 : 2) != 0 && !known.isEmpty()) {
                    int[] old = known.get(random.nextInt(known.size()));
                    row = shuffled(random, old);
                    if (!deletion && row.length > 0) {
                        row[random.nextInt(row.length)] = (1 + random.nextInt(variables)) * (random.nextBoolean() ? 1 : -1);
                    }
                }
                if (row.length == 0 && i < steps - 1 && random.nextInt(4) != 0) {
                    row = new int[] {1 + random.nextInt(variables)};
                }
                known.add(row);
                t.append(deletion ? "d " : "").append(textOf(row));
                b.append(bytesTextOf(deletion, row));
            }
            formula = f.toString();
            text = t.toString();
            bytes = b.toString();
        }
    }

    private static void weighRandomly(Random random, Pair pair, int turns) {
        for (int i = 0; i < turns; i++) {
            int fuel = random.nextInt(3) == 0 ? random.nextInt(60) : 20000;
            pair.weigh(random.nextBoolean(), random.nextInt(3) != 0, random.nextBoolean(), fuel);
            if (random.nextInt(3) == 0) {
                pair.shorten();
                if (random.nextInt(3) == 0) {
                    pair.take();
                }
            }
        }
    }

    private static void smallProofs() {
        for (int seed = 1; seed <= 6000; seed++) {
            Random random = new Random(seed);
            Sample sample = new Sample(random, 2 + random.nextInt(5), random.nextInt(14), random.nextInt(9), 3);
            story = "small proofs, seed " + seed + "\n" + sample.formula + "proof:\n" + sample.text;
            Pair pair = new Pair();
            pair.formula(bytesOf(sample.formula));
            boolean asBytes = random.nextBoolean();
            pair.proof(bytesOf(asBytes ? sample.bytes : sample.text), asBytes);
            weighRandomly(random, pair, 4);
        }
    }

    private static void largeProofs() {
        for (int seed = 1; seed <= 60; seed++) {
            Random random = new Random(seed);
            int variables = seed % 3 == 0 ? 150 : 4 + random.nextInt(147);
            Sample sample = new Sample(random, variables, 100 + random.nextInt(200), 300, 4 + random.nextInt(3));
            story = "large proofs, seed " + seed;
            Pair pair = new Pair();
            pair.formula(bytesOf(sample.formula));
            pair.proof(bytesOf(sample.bytes), true);
            weighRandomly(random, pair, 2);
        }
    }

    /** All rows of signs over some variables, and resolvents of them down to the empty clause. */
    private static void cubes() {
        for (int width = 2; width <= 7; width++) {
            StringBuilder f = new StringBuilder("p cnf " + (width + 1) + " " + (1 << width) + "\n");
            StringBuilder t = new StringBuilder();
            for (int length = width; length >= 0; length--) {
                for (int signs = 0; signs < 1 << length; signs++) {
                    int[] row = new int[length];
                    for (int j = 0; j < length; j++) {
                        row[j] = (signs >> j & 1) == 0 ? j + 1 : -j - 1;
                    }
                    (length == width ? f : t).append(textOf(row));
                }
            }
            story = "cubes of width " + width;
            Pair pair = new Pair();
            pair.formula(bytesOf(f.toString()));
            pair.proof(bytesOf(t.toString()), false);
            for (int i = 0; i < 8; i++) {
                pair.weigh((i & 1) != 0, (i & 2) != 0, (i & 4) != 0, 20000);
            }
            pair.shorten();
            pair.take();
            pair.weigh(true, true, false, 20000);
        }
    }

    /** Texts with a byte or two changed, cut or put in. */
    private static void brokenTexts() {
        String[] odd = {"-", "0", "-0", "00", "151", "-150", "1234567", "123456", "d", "p", "cnf", "c", "\n", "\nc ",
            "\t", "\r", " ", "\u0080", "\u0000", "\u00ff\u0002", "\u0001", "+1", "a", "1.5", "\u0081\u0000", "\u00ae\u0002"};
        for (int seed = 1; seed <= 20000; seed++) {
            Random random = new Random(seed);
            Sample sample = new Sample(random, 1 + random.nextInt(5), random.nextInt(4), random.nextInt(4), 3);
            String[] texts = {sample.formula, sample.text, sample.bytes};
            int which = random.nextInt(3);
            StringBuilder b = new StringBuilder(texts[which]);
            for (int i = random.nextInt(3); i >= 0; i--) {
                int place = random.nextInt(b.length() + 1);
                int until = Math.min(b.length(), place + random.nextInt(3));
                b.replace(place, until, odd[random.nextInt(odd.length)]);
            }
            if (random.nextInt(4) == 0) {
                b.setLength(random.nextInt(b.length() + 1));
            }
            story = "broken texts, seed " + seed + "\n" + b;
            Pair pair = new Pair();
            pair.formula(bytesOf("p cnf 2 3 1 2 0 -1 2 0 -2 0"));
            pair.proof(bytesOf("1 2 0 d 1 2 0"), false);
            pair.weigh(true, true, true, 100);
            if (which == 0) {
                pair.formula(bytesOf(b.toString()));
            } else {
                pair.proof(bytesOf(b.toString()), which == 2);
            }
            pair.askAll();
            pair.shorten();
        }
    }

    /** Rows and texts about as long as they may be. */
    private static void fullTexts() {
        for (int seed = 1; seed <= 300; seed++) {
            Random random = new Random(seed);
            int rows = 48 + random.nextInt(5);
            int before = random.nextInt(260);
            StringBuilder f = new StringBuilder("p cnf 9 " + (rows + before) + "\n");
            StringBuilder t = new StringBuilder();
            StringBuilder b = new StringBuilder();
            for (int i = 0; i < rows + before; i++) {
                int length = i < before ? 0 : random.nextInt(300) == 0 ? 41 : 40;
                int[] row = new int[length];
                for (int j = 0; j < length; j++) {
                    row[j] = 1 + random.nextInt(random.nextInt(900) == 0 ? 160 : 9);
                }
                boolean deletion = random.nextBoolean();
                f.append(textOf(row));
                t.append(deletion ? "d " : "").append(textOf(row));
                b.append(bytesTextOf(deletion, row));
            }
            story = "full texts, seed " + seed;
            Pair pair = new Pair();
            pair.formula(bytesOf(f.toString()));
            pair.proof(bytesOf(t.toString()), false);
            pair.proof(bytesOf(b.toString()), true);
            pair.askAll();
        }
    }

    /** Splits on a random variable until a clause is false; writes the splits' negation behind both branches. */
    private static void split(Random random, List<int[]> rows, int variables, List<Integer> path, List<int[]> lemmas) {
        for (int[] row : rows) {
            boolean isFalse = true;
            for (int literal : row) {
                isFalse &= path.contains(-literal);
            }
            if (isFalse) {
                return;
            }
        }
        if (path.size() == variables || lemmas.size() > 250) {
            return;
        }
        int variable = 1 + random.nextInt(variables);
        while (path.contains(variable) || path.contains(-variable)) {
            variable = 1 + random.nextInt(variables);
        }
        for (int literal : new int[] {variable, -variable}) {
            path.add(literal);
            split(random, rows, variables, path, lemmas);
            int[] lemma = new int[path.size()];
            for (int i = 0; i < lemma.length; i++) {
                lemma[i] = -path.get(i);
            }
            lemmas.add(lemma);
            path.remove(path.size() - 1);
        }
    }

    private static String head(int variables, List<int[]> rows) {
        StringBuilder f = new StringBuilder("p cnf " + variables + " " + rows.size() + "\nc a line that counts for nothing\n");
        for (int[] row : rows) {
            f.append(textOf(row));
        }
        return f.toString();
    }

    private static List<int[]> randomRows(Random random, int variables, int count) {
        List<int[]> rows = new ArrayList<>();
        for (int i = 0; i < count; i++) {
            int[] row = row(random, variables, 3);
            rows.add(row.length == 0 || row.length == 1 && random.nextInt(20) != 0 ? new int[] {1, 2, 3} : row);
        }
        return rows;
    }

    /** Proofs by a search, most of which are verified late, with deletions among them. */
    private static void searchedProofs() {
        for (int seed = 1; seed <= 400; seed++) {
            Random random = new Random(seed);
            int variables = 3 + random.nextInt(6);
            List<int[]> rows = randomRows(random, variables, 5 * variables + random.nextInt(20));
            List<int[]> lemmas = new ArrayList<>();
            split(random, rows, variables, new ArrayList<>(), lemmas);
            StringBuilder t = new StringBuilder();
            List<int[]> known = new ArrayList<>(rows);
            int deletions = 0;
            for (int[] lemma : lemmas) {
                t.append(textOf(lemma));
                known.add(lemma);
                if (random.nextInt(12) == 0 && deletions++ < 40) {
                    t.append("d ").append(textOf(shuffled(random, known.remove(random.nextInt(known.size())))));
                }
            }
            t.append("0\n");
            story = "searched proofs, seed " + seed;
            Pair pair = new Pair();
            pair.formula(bytesOf(head(variables, rows)));
            pair.proof(bytesOf(t.toString()), false);
            weighRandomly(random, pair, 5);
        }
    }

    /** Each clause is said again with a new name for a variable, which only RAT allows; the old ones go. */
    private static void renamedProofs() {
        for (int seed = 1; seed <= 400; seed++) {
            Random random = new Random(seed);
            int variables = 3 + random.nextInt(3);
            List<int[]> rows = randomRows(random, variables, 6 * variables + random.nextInt(10));
            int fresh = variables + 1;
            int old = 1 + random.nextInt(variables);
            List<int[]> named = new ArrayList<>();
            StringBuilder t = new StringBuilder();
            t.append(textOf(new int[] {fresh, -old})).append(textOf(new int[] {-fresh, old}));
            for (int[] row : rows) {
                int[] again = row.clone();
                for (int j = 0; j < again.length; j++) {
                    again[j] = again[j] == old ? fresh : again[j] == -old ? -fresh : again[j];
                }
                named.add(again);
                t.append(textOf(again));
                if (random.nextInt(3) != 0) {
                    t.append("d ").append(textOf(shuffled(random, row)));
                }
            }
            List<int[]> lemmas = new ArrayList<>();
            split(random, named, fresh, new ArrayList<>(), lemmas);
            for (int[] lemma : lemmas.subList(0, Math.min(lemmas.size(), 200))) {
                t.append(textOf(lemma));
            }
            story = "renamed proofs, seed " + seed;
            Pair pair = new Pair();
            pair.formula(bytesOf(head(variables, rows)));
            pair.proof(bytesOf(t.toString()), false);
            weighRandomly(random, pair, 4);
        }
    }

    /** Lemmas that need long chains, so that there is no room for all hints. */
    private static void longChains() {
        for (int seed = 1; seed <= 12; seed++) {
            Random random = new Random(seed);
            StringBuilder f = new StringBuilder("p cnf 100 101\n");
            for (int i = 1; i < 100; i++) {
                f.append(textOf(new int[] {-i, i + 1}));
            }
            f.append("-99 100 0\n1 50 0\n");
            StringBuilder t = new StringBuilder();
            for (int i = 0; i < 200; i++) {
                int first = 1 + random.nextInt(20);
                int last = 80 + random.nextInt(20);
                t.append(random.nextBoolean() ? textOf(new int[] {-first, last, 101 + i % 49})
                        : textOf(new int[] {last, -first}));
            }
            t.append("-100 0\n");
            story = "long chains, seed " + seed;
            Pair pair = new Pair();
            pair.formula(bytesOf(f.toString()));
            pair.proof(bytesOf(t.toString()), false);
            pair.weigh(seed % 2 == 0, true, false, 20000);
            pair.shorten();
        }
    }

    /** Deletions of long clauses, which are longer as text than the tape is. */
    private static void longOuts() {
        for (int size = 5988; size <= 6012; size++) {
            StringBuilder f = new StringBuilder();
            StringBuilder b = new StringBuilder();
            int rows = 0;
            for (int room = size; room > 0; rows++) {
                List<Integer> row = new ArrayList<>();
                int bytes = 4;
                // Numbers of one to four letters with a blank: the last row takes just what is left.
                while (bytes < 180 && bytes < room) {
                    int letters = Math.min(5, room - bytes);
                    int literal = letters < 2 ? 0 : letters == 2 ? 7 : letters == 3 ? -7 : letters == 4 ? -77 : -100 - row.size();
                    if (literal == 0) {
                        bytes = room;
                    } else {
                        row.add(literal);
                        bytes += letters;
                    }
                }
                room -= bytes;
                int[] literals = row.stream().mapToInt(i -> i).toArray();
                f.append(textOf(literals));
                b.append(bytesTextOf(true, literals));
            }
            story = "long outs, " + size;
            Pair pair = new Pair();
            pair.formula(bytesOf("p cnf 150 " + rows + "\n" + f));
            pair.proof(bytesOf(b.toString()), true);
            pair.weigh(false, false, false, 20000);
            pair.shorten();
            pair.take();
        }
    }

    /** As many different literals as there can be, in a formula and in a proof together. */
    private static void fullClauses() {
        for (int seed = 1; seed <= 20; seed++) {
            Random random = new Random(seed);
            StringBuilder f = new StringBuilder("p cnf 150 50\n");
            StringBuilder b = new StringBuilder();
            for (int i = 0; i < 50; i++) {
                int[] small = new int[40];
                int[] large = new int[40];
                for (int j = 0; j < 40; j++) {
                    small[j] = (j < 9 && random.nextInt(3) == 0 ? -1 : 1) * (j + 1);
                    large[j] = (random.nextInt(4) == 0 ? -1 : 1) * (j + 1 + (random.nextInt(3) == 0 ? 110 : 0));
                }
                f.append(textOf(shuffled(random, small)));
                b.append(bytesTextOf(random.nextInt(9) == 0, shuffled(random, random.nextInt(4) == 0 ? small : large)));
            }
            story = "full clauses, seed " + seed;
            Pair pair = new Pair();
            pair.formula(bytesOf(f.toString()));
            pair.proof(bytesOf(b.toString()), true);
            for (int i = 0; i < 4; i++) {
                pair.weigh((i & 1) != 0, (i & 2) != 0, false, 20000);
                pair.shorten();
            }
        }
    }

    public static void main(String[] args) {
        searchedProofs();
        renamedProofs();
        longChains();
        longOuts();
        smallProofs();
        largeProofs();
        cubes();
        brokenTexts();
        fullTexts();
        fullClauses();
        System.out.println(seen);
        System.out.println(wrong == 0 ? "all answers are the model's" : wrong + " answers are not the model's");
        if (wrong != 0) {
            System.exit(1);
        }
    }
}
