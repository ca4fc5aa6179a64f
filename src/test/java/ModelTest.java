import java.math.BigInteger;
import java.util.ArrayList;
import java.util.List;
import java.util.Random;
import java.util.TreeSet;

/**
 * Long runs of calls, the same ones on a PartFormulas and on a model that is written another way
 * (trees, recursion, large numbers, nothing kept that can be worked out anew); all answers must agree.
 */
public final class ModelTest {
    private static final String MEASURES = "whdxyz";
    private static final BigInteger LARGEST = BigInteger.valueOf(1000000000L);

    /** A reading that failed, told by the place. */
    private static final class Bad extends RuntimeException {
        private static final long serialVersionUID = 1L;
        final int place;

        Bad(int place) {
            this.place = place;
        }
    }

    /** A reckoning that failed, told by the reason. */
    private static final class Fault extends RuntimeException {
        private static final long serialVersionUID = 1L;
        final int reason;

        Fault(int reason) {
            this.reason = reason;
        }
    }

    private record Ratio(BigInteger above, BigInteger below) {
        static Ratio of(BigInteger above, BigInteger below) {
            BigInteger divisor = above.gcd(below);
            if (below.signum() < 0) {
                divisor = divisor.negate();
            }
            return new Ratio(above.divide(divisor), below.divide(divisor));
        }

        static Ratio of(long above, long below) {
            return of(BigInteger.valueOf(above), BigInteger.valueOf(below));
        }

        Ratio bounded() {
            if (above.abs().compareTo(LARGEST) > 0 || below.compareTo(LARGEST) > 0) {
                throw new Fault(3);
            }
            return this;
        }

        int compare(Ratio o) {
            return above.multiply(o.below).compareTo(o.above.multiply(below));
        }
    }

    /** kind: # number, o option, c cell, n negation, + - * / */
    private record Tree(char kind, int index, String digits, Tree left, Tree right) {
        void mentions(TreeSet<Integer> cells, TreeSet<Integer> options) {
            if (kind == 'c') {
                cells.add(index);
            }
            if (kind == 'o') {
                options.add(index);
            }
            if (left != null) {
                left.mentions(cells, options);
            }
            if (right != null) {
                right.mentions(cells, options);
            }
        }

        boolean isSum() {
            return kind == '+' || kind == '-';
        }

        boolean isProduct() {
            return kind == '*' || kind == '/';
        }

        String print() {
            if (kind == '#') {
                return plainDigits();
            }
            if (kind == 'o') {
                return String.valueOf((char) ('a' + index));
            }
            if (kind == 'c') {
                return (char) ('A' + index / 6) + MEASURES.substring(index % 6, index % 6 + 1);
            }
            if (kind == 'n') {
                return "-" + left.around(left.isSum() || left.isProduct());
            }
            if (isSum()) {
                return left.print() + kind + right.around(right.isSum());
            }
            return left.around(left.isSum()) + kind + right.around(right.isSum() || right.isProduct());
        }

        private String around(boolean isNeeded) {
            return isNeeded ? "(" + print() + ")" : print();
        }

        private String plainDigits() {
            String plain = digits.replaceAll("^0+(?=[0-9])", "");
            return plain.indexOf('.') < 0 ? plain : plain.replaceAll("0+$", "").replaceAll("\\.$", "");
        }

        Ratio reckon(Ratio[] options, Object[] cells) {
            if (kind == '#') {
                int point = digits.indexOf('.');
                int behind = point < 0 ? 0 : digits.length() - point - 1;
                return Ratio.of(new BigInteger(digits.replace(".", "")), BigInteger.TEN.pow(behind)).bounded();
            }
            if (kind == 'o') {
                return options[index];
            }
            if (kind == 'c') {
                if (cells[index] instanceof Ratio) {
                    return (Ratio) cells[index];
                }
                throw new Fault(5);
            }
            Ratio l = left.reckon(options, cells);
            if (kind == 'n') {
                return new Ratio(l.above.negate(), l.below);
            }
            Ratio r = right.reckon(options, cells);
            BigInteger crossed = r.above.multiply(l.below);
            if (isSum()) {
                BigInteger other = l.above.multiply(r.below);
                BigInteger above = kind == '+' ? other.add(crossed) : other.subtract(crossed);
                return Ratio.of(above, l.below.multiply(r.below)).bounded();
            }
            if (kind == '*') {
                return Ratio.of(l.above.multiply(r.above), l.below.multiply(r.below)).bounded();
            }
            if (r.above.signum() == 0) {
                throw new Fault(2);
            }
            return Ratio.of(l.above.multiply(r.below), crossed).bounded();
        }
    }

    private record Test(Tree left, char sign, Tree right) {
        boolean holds(Ratio[] options, Object[] cells) {
            int order = left.reckon(options, cells).compare(right.reckon(options, cells));
            return sign == '<' ? order < 0 : sign == '>' ? order > 0 : order == 0;
        }

        String print() {
            return left.print() + sign + right.print();
        }
    }

    /** A definition (tests, each with a tree, and one tree more) or a limit (one test, cell -1). */
    private record Statement(int cell, List<Test> tests, List<Tree> trees) {
        String print() {
            if (cell < 0) {
                return "!" + tests.get(0).print();
            }
            StringBuilder b = new StringBuilder();
            b.append((char) ('A' + cell / 6)).append(MEASURES.charAt(cell % 6)).append('=');
            for (int i = 0; i < tests.size(); i++) {
                b.append(tests.get(i).print()).append('?').append(trees.get(i).print()).append(':');
            }
            return b.append(trees.get(tests.size()).print()).toString();
        }

        TreeSet<Integer> mentions(boolean ofCells) {
            TreeSet<Integer> cells = new TreeSet<>();
            TreeSet<Integer> options = new TreeSet<>();
            for (Test t : tests) {
                t.left.mentions(cells, options);
                t.right.mentions(cells, options);
            }
            for (Tree t : trees) {
                t.mentions(cells, options);
            }
            return ofCells ? cells : options;
        }
    }

    private static final class Parser {
        final String s;
        int at = 0;

        Parser(String s) {
            this.s = s;
        }

        char peek() {
            return at < s.length() ? s.charAt(at) : 0;
        }

        char take(String allowed) {
            if (at >= s.length() || allowed.indexOf(s.charAt(at)) < 0) {
                throw new Bad(at);
            }
            return s.charAt(at++);
        }

        boolean sees(String allowed) {
            return at < s.length() && allowed.indexOf(s.charAt(at)) >= 0;
        }

        List<Statement> all() {
            List<Statement> list = new ArrayList<>();
            TreeSet<Integer> defined = new TreeSet<>();
            list.add(statement(defined));
            while (at < s.length()) {
                if (list.size() == 24) {
                    throw new Bad(at);
                }
                take(";");
                list.add(statement(defined));
            }
            return list;
        }

        int cell() {
            int part = take("ABCDEFGHIJ") - 'A';
            return 6 * part + MEASURES.indexOf(take(MEASURES));
        }

        Statement statement(TreeSet<Integer> defined) {
            List<Test> tests = new ArrayList<>();
            List<Tree> trees = new ArrayList<>();
            if (sees("!")) {
                at++;
                Tree left = sum(0);
                tests.add(new Test(left, take("<>="), sum(0)));
                return new Statement(-1, tests, trees);
            }
            int place = at;
            int cell = cell();
            if (!defined.add(cell)) {
                throw new Bad(place);
            }
            take("=");
            Tree tree = sum(0);
            while (tests.size() < 4 && sees("<>=")) {
                tests.add(new Test(tree, take("<>="), sum(0)));
                take("?");
                trees.add(sum(0));
                take(":");
                tree = sum(0);
            }
            trees.add(tree);
            return new Statement(cell, tests, trees);
        }

        Tree sum(int depth) {
            Tree tree = product(depth);
            while (sees("+-")) {
                char c = take("+-");
                tree = new Tree(c, 0, null, tree, product(depth));
            }
            return tree;
        }

        Tree product(int depth) {
            Tree tree = factor(depth);
            while (sees("*/")) {
                char c = take("*/");
                tree = new Tree(c, 0, null, tree, factor(depth));
            }
            return tree;
        }

        Tree factor(int depth) {
            if (sees("-(") && depth == 8) {
                throw new Bad(at);
            }
            if (sees("-")) {
                at++;
                return new Tree('n', 0, null, factor(depth + 1), null);
            }
            if (sees("(")) {
                at++;
                Tree tree = sum(depth + 1);
                take(")");
                return tree;
            }
            if (sees("0123456789")) {
                int start = at;
                digits(5);
                if (sees(".")) {
                    at++;
                    digits(3);
                }
                return new Tree('#', 0, s.substring(start, at), null, null);
            }
            if (sees("abcdefgh")) {
                return new Tree('o', take("abcdefgh") - 'a', null, null, null);
            }
            return new Tree('c', cell(), null, null, null);
        }

        void digits(int most) {
            take("0123456789");
            for (int i = 1; i < most && sees("0123456789"); i++) {
                at++;
            }
        }
    }

    /** The model: keeps what was read, the options and the versions; a cell is a Ratio or a number 0, 2 .. 5. */
    private static final class Model {
        StringBuilder typed = new StringBuilder();
        List<Statement> text = null;
        boolean workedOut = false;
        final Ratio[] options = new Ratio[8];
        final List<Object[]> versions = new ArrayList<>();
        long reckoned = 0;

        Model() {
            for (int i = 0; i < 8; i++) {
                options[i] = Ratio.of(0, 1);
            }
        }

        boolean unit(int u) {
            if (u < 33 || u > 126 || typed.length() == 400) {
                return false;
            }
            typed.append((char) u);
            return true;
        }

        int read() {
            String s = typed.toString();
            typed = new StringBuilder();
            try {
                text = new Parser(s).all();
                workedOut = false;
                return text.size();
            } catch (Bad b) {
                return -1 - b.place;
            }
        }

        void state(boolean isGood) {
            if (!isGood) {
                throw new IllegalStateException();
            }
        }

        void argument(boolean isGood) {
            if (!isGood) {
                throw new IllegalArgumentException();
            }
        }

        void index(boolean isGood) {
            if (!isGood) {
                throw new IndexOutOfBoundsException();
            }
        }

        int write(int i) {
            state(text != null);
            argument(i >= 0);
            StringBuilder b = new StringBuilder();
            for (Statement s : text) {
                b.append(b.length() > 0 ? ";" : "").append(s.print());
            }
            return i < b.length() ? b.charAt(i) : -1;
        }

        Statement definition(int cell) {
            if (text != null) {
                for (Statement s : text) {
                    if (s.cell == cell) {
                        return s;
                    }
                }
            }
            return null;
        }

        TreeSet<Integer> reach(int cell) {
            TreeSet<Integer> found = new TreeSet<>();
            List<Integer> open = new ArrayList<>();
            open.add(cell);
            while (!open.isEmpty()) {
                Statement s = definition(open.remove(open.size() - 1));
                if (s != null) {
                    for (int other : s.mentions(true)) {
                        if (found.add(other)) {
                            open.add(other);
                        }
                    }
                }
            }
            return found;
        }

        boolean isRing(int cell) {
            return reach(cell).contains(cell);
        }

        boolean hangs(int cell, int option) {
            TreeSet<Integer> all = reach(cell);
            all.add(cell);
            for (int c : all) {
                Statement s = definition(c);
                if (s != null && s.mentions(false).contains(option)) {
                    return true;
                }
            }
            return false;
        }

        /** All cells worked out anew, by recursion; chosen conditions go to the second row. */
        Object[] cells(int[] chosen) {
            Object[] cells = new Object[60];
            for (int c = 0; c < 60; c++) {
                chosen[c] = -1;
                if (definition(c) == null) {
                    cells[c] = 0;
                } else if (isRing(c)) {
                    cells[c] = 4;
                }
            }
            for (int c = 0; c < 60; c++) {
                reckon(c, cells, chosen);
            }
            return cells;
        }

        void reckon(int cell, Object[] cells, int[] chosen) {
            if (cells[cell] != null) {
                return;
            }
            Statement s = definition(cell);
            for (int other : s.mentions(true)) {
                reckon(other, cells, chosen);
            }
            try {
                int k = 0;
                while (k < s.tests.size() && !s.tests.get(k).holds(options, cells)) {
                    k++;
                }
                cells[cell] = s.trees.get(k).reckon(options, cells);
                chosen[cell] = k;
            } catch (Fault f) {
                cells[cell] = f.reason;
            }
        }

        Object[] cells() {
            return cells(new int[60]);
        }

        boolean set(int name, long above, long below) {
            index(name >= 0 && name < 8);
            argument(below >= 1 && below <= 1000000000L && above <= 1000000000L && above >= -1000000000L);
            Ratio other = Ratio.of(above, below);
            if (other.equals(options[name])) {
                return false;
            }
            options[name] = other;
            for (int c = 0; c < 60 && workedOut; c++) {
                reckoned += definition(c) != null && !isRing(c) && hangs(c, name) ? 1 : 0;
            }
            return true;
        }

        int run() {
            state(text != null);
            workedOut = true;
            Object[] cells = cells();
            int answer = 0;
            for (int s = 0; s < text.size(); s++) {
                int cell = text.get(s).cell;
                if (cell >= 0) {
                    reckoned += isRing(cell) ? 0 : 1;
                    answer = answer == 0 && !(cells[cell] instanceof Ratio) ? 1 + s : answer;
                }
            }
            return answer;
        }

        int cell(int part, int measure) {
            index(part >= 0 && part < 10 && measure >= 0 && measure < 6);
            return 6 * part + measure;
        }

        int state(int part, int measure) {
            state(workedOut);
            Object cell = cells()[cell(part, measure)];
            return cell instanceof Ratio ? 1 : (Integer) cell;
        }

        long size(int part, int measure, int which) {
            int cell = cell(part, measure);
            argument(which == 0 || which == 1);
            state(workedOut && cells()[cell] instanceof Ratio);
            Ratio ratio = (Ratio) cells()[cell];
            return (which == 0 ? ratio.above : ratio.below).longValueExact();
        }

        int ring(int k) {
            state(text != null);
            argument(k >= 0);
            List<Integer> found = new ArrayList<>();
            for (int c = 0; c < 60; c++) {
                if (isRing(c)) {
                    found.add(c);
                }
            }
            return k < found.size() ? found.get(k) : -1;
        }

        int condition(int part, int measure) {
            state(workedOut);
            int[] chosen = new int[60];
            cells(chosen);
            return chosen[cell(part, measure)];
        }

        int line(int part, int measure) {
            state(text != null);
            return text.indexOf(definition(cell(part, measure)));
        }

        boolean needs(int cell, int other) {
            state(text != null);
            index(cell >= 0 && cell < 60 && other >= 0 && other < 60);
            return reach(cell).contains(other);
        }

        List<int[]> broken() {
            List<int[]> found = new ArrayList<>();
            Object[] cells = cells();
            for (int s = 0; s < text.size(); s++) {
                if (text.get(s).cell < 0) {
                    try {
                        if (!text.get(s).tests.get(0).holds(options, cells)) {
                            found.add(new int[] {s, 1});
                        }
                    } catch (Fault f) {
                        found.add(new int[] {s, f.reason});
                    }
                }
            }
            return found;
        }

        int limit(int k, int what) {
            state(workedOut);
            argument(k >= 0 && (what == 0 || what == 1));
            List<int[]> found = broken();
            return k < found.size() ? found.get(k)[what] : -1;
        }

        int check(int steps) {
            state(workedOut);
            argument(steps >= 0 && steps <= 50);
            Ratio before = options[0];
            int answer = -1;
            for (int i = 0; i <= steps && answer < 0; i++) {
                options[0] = new Ratio(before.above.add(before.below.multiply(BigInteger.valueOf(i))), before.below);
                if (options[0].above.compareTo(LARGEST) > 0) {
                    break;
                }
                answer = broken().isEmpty() ? -1 : i;
            }
            options[0] = before;
            return answer;
        }

        int version() {
            state(workedOut && versions.size() < 4);
            versions.add(cells());
            return versions.size() - 1;
        }

        int differs(int version, int k) {
            state(workedOut);
            index(version >= 0 && version < versions.size());
            argument(k >= 0);
            Object[] cells = cells();
            int found = 0;
            for (int c = 0; c < 60; c++) {
                if (!cells[c].equals(versions.get(version)[c]) && found++ == k) {
                    return c;
                }
            }
            return -1;
        }

        boolean same() {
            state(workedOut);
            return true;
        }
    }

    private interface Call {
        Object make();
    }

    private static String answer(Call call) {
        try {
            return String.valueOf(call.make());
        } catch (RuntimeException e) {
            return e.getClass().getSimpleName();
        }
    }

    private static final Random random = new Random(20261115);
    private static final StringBuilder told = new StringBuilder();
    private static int wrong = 0;
    private static int calls = 0;
    private static int good = 0;

    private static void both(String name, Call program, Call model) {
        String got = answer(program);
        String want = answer(model);
        calls++;
        told.append(name).append(" -> ").append(want).append('\n');
        if (!got.equals(want)) {
            wrong++;
            if (wrong <= 3) {
                System.out.println(told + "the last one answered " + got);
            }
        }
    }

    private static int below(int n) {
        return random.nextInt(n);
    }

    private static char letter(String s) {
        return s.charAt(below(s.length()));
    }

    /** Texts of few parts, so that cells need one another, by chance in rings. */
    private static String someCell(int parts) {
        return "" + (char) ('A' + below(parts)) + letter(below(4) == 0 ? MEASURES : "wz");
    }

    private static String someNumber() {
        StringBuilder b = new StringBuilder();
        int digits = below(3) == 0 ? 1 + below(5) : 1;
        for (int i = 0; i < digits; i++) {
            b.append(letter("0012345679"));
        }
        if (below(4) == 0) {
            b.append('.');
            for (int i = 1 + below(3); i > 0; i--) {
                b.append(letter("0025"));
            }
        }
        return b.toString();
    }

    private static String someFactor(int depth, int parts) {
        switch (below(depth > 0 ? 9 : 6)) {
            case 0: case 1: return someNumber();
            case 2: return "" + letter("aaabch");
            case 3: case 4: case 5: return below(3) == 0 ? "" + letter("ab") : someCell(parts);
            case 6: return "-" + someFactor(depth - below(2), parts);
            default: return "(" + someSum(depth - 1, parts) + ")";
        }
    }

    private static String someSum(int depth, int parts) {
        StringBuilder b = new StringBuilder(someFactor(depth, parts));
        while (below(5) < 2) {
            b.append(letter("+-*/*")).append(someFactor(depth, parts));
        }
        return b.toString();
    }

    private static String someTest(int depth, int parts) {
        return someSum(depth, parts) + letter("<>=") + someSum(depth, parts);
    }

    private static String someText() {
        int parts = 1 + below(10);
        int depth = below(6) == 0 ? 7 : below(4);
        StringBuilder b = new StringBuilder();
        TreeSet<String> defined = new TreeSet<>();
        for (int n = 1 + below(below(8) == 0 ? 26 : 12); n > 0; n--) {
            StringBuilder s = new StringBuilder();
            if (below(4) == 0) {
                s.append('!').append(someTest(depth, parts));
            } else {
                String cell = someCell(parts);
                if (!defined.add(cell) && below(12) > 0) {
                    continue;
                }
                s.append(cell).append('=');
                for (int k = below(3) == 0 ? below(6) : 0; k > 0; k--) {
                    s.append(someTest(depth / 2, parts)).append('?').append(someSum(depth / 2, parts)).append(':');
                }
                s.append(someSum(depth, parts));
            }
            if (b.length() + s.length() < 399) {
                b.append(b.length() > 0 ? ";" : "").append(s);
            }
        }
        for (int n = below(4) == 0 ? 1 + below(2) : 0; n > 0 && b.length() > 0; n--) {
            spoil(b);
        }
        return b.toString();
    }

    private static void spoil(StringBuilder b) {
        int place = below(b.length());
        char c = letter("AJKwzahi019.;!=<>?:+-*/()~");
        switch (below(4)) {
            case 0: b.setCharAt(place, c); break;
            case 1: b.insert(place, c); break;
            case 2: b.deleteCharAt(place); break;
            default: b.setLength(place); break;
        }
    }

    private static long someAbove() {
        switch (below(10)) {
            case 0: return 1000000000L - below(60);
            case 1: return -1000000000L + below(3);
            case 2: return below(2) == 0 ? 1000000001L : Long.MIN_VALUE;
            case 3: return below(1000000000);
            default: return below(25) - 8;
        }
    }

    private static long someBelow() {
        switch (below(12)) {
            case 0: return 1000000000L - below(3);
            case 1: return below(2) == 0 ? 1000000001L : -below(3);
            case 2: return 1 + below(1000000000);
            default: return 1 + below(4);
        }
    }

    private static void typeAndRead(PartFormulas f, Model m) {
        String text = someText();
        told.append(text).append('\n');
        for (int i = 0; i < text.length(); i++) {
            char c = text.charAt(i);
            both("unit " + c, () -> f.unit(c), () -> m.unit(c));
        }
        List<Statement> before = m.text;
        both("read", f::read, m::read);
        if (m.text != before) {
            good++;
        }
    }

    private static void someCall(PartFormulas f, Model m) {
        int part = below(12) - 1;
        int measure = below(8) - 1;
        int small = below(6) - 1;
        int bit = below(8) == 0 ? below(5) - 2 : below(2);
        switch (below(14)) {
            case 0: both("run", f::run, m::run); break;
            case 1: case 2: {
                int name = below(12) == 0 ? below(12) - 2 : letter("aaabbch") - 'a';
                long above = someAbove();
                long under = someBelow();
                both("set " + name + " " + above + " " + under,
                        () -> f.set(name, above, under), () -> m.set(name, above, under));
                break;
            }
            case 3: both("state " + part + " " + measure, () -> f.state(part, measure), () -> m.state(part, measure)); break;
            case 4: {
                int which = small;
                both("size " + part + " " + measure + " " + which,
                        () -> f.size(part, measure, which), () -> m.size(part, measure, which));
                break;
            }
            case 5: both("ring " + small, () -> f.ring(small), () -> m.ring(small)); break;
            case 6: both("condition " + part + " " + measure,
                    () -> f.condition(part, measure), () -> m.condition(part, measure)); break;
            case 7: both("line " + part + " " + measure, () -> f.line(part, measure), () -> m.line(part, measure)); break;
            case 8: {
                int cell = below(62) - 1;
                int other = below(62) - 1;
                both("needs " + cell + " " + other, () -> f.needs(cell, other), () -> m.needs(cell, other));
                break;
            }
            case 9: both("limit " + small + " " + bit, () -> f.limit(small, bit), () -> m.limit(small, bit)); break;
            case 10: {
                int steps = below(10) == 0 ? below(60) - 4 : below(12);
                both("check " + steps, () -> f.check(steps), () -> m.check(steps));
                break;
            }
            case 11: both("version", f::version, m::version); break;
            case 12: both("differs " + small + " " + bit, () -> f.differs(small, bit), () -> m.differs(small, bit)); break;
            default: both("same", f::same, m::same); break;
        }
        both("reckoned", f::reckoned, () -> m.reckoned);
    }

    private static void allCells(PartFormulas f, Model m) {
        if (m.text == null || !m.workedOut) {
            return;
        }
        int[] chosen = new int[60];
        Object[] cells = m.cells(chosen);
        for (int c = 0; c < 60; c++) {
            int part = c / 6;
            int measure = c % 6;
            Object cell = cells[c];
            both("state of " + c, () -> f.state(part, measure), () -> cell instanceof Ratio ? 1 : cell);
            both("condition of " + c, () -> f.condition(part, measure), () -> chosen[part * 6 + measure]);
            if (cell instanceof Ratio) {
                both("above of " + c, () -> f.size(part, measure, 0), () -> ((Ratio) cell).above);
                both("below of " + c, () -> f.size(part, measure, 1), () -> ((Ratio) cell).below);
            }
        }
    }

    private static void print(PartFormulas f, Model m) {
        if (m.text != null) {
            for (int i = 0; i < 401; i++) {
                int at = i;
                String got = answer(() -> f.write(at));
                both("write " + i, () -> got, () -> m.write(at));
                if (got.equals("-1")) {
                    return;
                }
            }
        }
    }

    private static void oneRun() {
        told.setLength(0);
        PartFormulas f = new PartFormulas();
        Model m = new Model();
        for (int texts = 1 + below(3); texts > 0; texts--) {
            typeAndRead(f, m);
            if (below(5) > 0) {
                both("run", f::run, m::run);
            }
            for (int n = below(25); n > 0; n--) {
                someCall(f, m);
            }
            allCells(f, m);
            if (below(8) == 0) {
                print(f, m);
            }
        }
    }

    public static void main(String[] args) {
        int runs = args.length > 0 ? Integer.parseInt(args[0]) : 1500;
        for (int i = 0; i < runs; i++) {
            oneRun();
        }
        System.out.println(calls + " calls on " + runs + " objects, " + good + " texts read: "
                + (wrong == 0 ? "all as the model's" : wrong + " are not as the model's"));
        if (wrong != 0) {
            System.exit(1);
        }
    }
}
