/**
 * Furniture as texts: parts whose sizes and places are formulas of one another and of options.
 *
 * A text is collected by unit(), read by read() and worked out by run(); set() works out again
 * just what hangs on the option that it changes. All rows are made once, by the constructor.
 */
public final class PartFormulas {
    public static final int NONE = -1;
    public static final int VALUE = 1, DIVISION = 2, BIG = 3, RING = 4, MISSED = 5;

    private static final int UNDEFINED = 0;
    private static final int OPTIONS = 8;
    private static final int PARTS = 10;
    private static final int MEASURES = 6;
    private static final int CELLS = PARTS * MEASURES;
    private static final String MEASURE_LETTERS = "whdxyz";

    private static final int FIRST_CHARACTER = 33;
    private static final int LAST_CHARACTER = 126;
    private static final int LONGEST_TEXT = 400;
    private static final int MOST_STATEMENTS = 24;
    private static final int MOST_CONDITIONS = 4;
    private static final int MOST_NESTED = 8;
    private static final int MOST_DIGITS = 5;
    private static final int MOST_DIGITS_BEHIND_POINT = 3;
    private static final int MOST_VERSIONS = 4;
    private static final int MOST_CHECK_STEPS = 50;
    private static final long LARGEST = 1000000000L;

    // What a condition is; beside these it may be DIVISION, BIG or MISSED.
    private static final int HOLDS = 0;
    private static final int FAILS = 1;

    // Kinds of steps; NOTHING and GROUP stand only among the operators that wait in the reader.
    private static final int NOTHING = 0;
    private static final int NUMBER = 1;
    private static final int OPTION = 2;
    private static final int CELL = 3;
    private static final int NEGATE = 4;
    private static final int ADD = 5;
    private static final int SUBTRACT = 6;
    private static final int MULTIPLY = 7;
    private static final int DIVIDE = 8;
    private static final int GROUP = 9;

    // What an expression is put together by, as far as printing has to know it.
    private static final int SINGLE = 0;
    private static final int PRODUCT = 1;
    private static final int SUM = 2;

    // In each group a sum and a product can wait for their right sides, and one operand is on top.
    private static final int DEEPEST_STACK = 2 * (MOST_NESTED + 1) + 1;
    // Euclid's way takes fewer turns than this for all numbers that fit a long.
    private static final int MOST_EUCLID_TURNS = 100;

    private final Reader reader = new Reader();
    private Text text = new Text();
    private boolean wasRead = false;
    private boolean workedOut = false;
    private final Reckoner reckoner = new Reckoner();
    private final Cells cells = new Cells();
    private final Cells trial = new Cells();
    private final Cells[] versions = new Cells[MOST_VERSIONS];
    private int versionCount = 0;
    private long reckonedCells = 0;

    public PartFormulas() {
        for (int i = 0; i < MOST_VERSIONS; i++) {
            versions[i] = new Cells();
        }
    }

    public boolean unit(int u) {
        return u >= FIRST_CHARACTER && u <= LAST_CHARACTER && reader.collect((char) u);
    }

    public int read() {
        int answer = reader.readCollected();
        if (answer >= 0) {
            text = reader.exchange(text);
            wasRead = true;
            workedOut = false;
        }
        return answer;
    }

    public int write(int i) throws IllegalStateException, IllegalArgumentException {
        demandRead();
        demandNotNegative(i);
        return i < text.printedLength ? text.printed[i] : NONE;
    }

    public boolean set(int name, long above, long below)
            throws IndexOutOfBoundsException, IllegalArgumentException {
        demandIndex(name, OPTIONS);
        if (below < 1 || below > LARGEST || above > LARGEST || above < -LARGEST) {
            throw new IllegalArgumentException("an option's fraction is out of bounds");
        }
        boolean isOther = reckoner.changeOption(name, above, below);
        if (isOther && workedOut) {
            reckonedCells += reckoner.workOutHanging(text, name, cells);
        }
        return isOther;
    }

    public int run() throws IllegalStateException {
        demandRead();
        reckoner.workOutAll(text, cells);
        workedOut = true;
        reckonedCells += text.orderLength;
        for (int s = 0; s < text.statements; s++) {
            int cell = text.cellOf[s];
            if (cell != NONE && cells.state[cell] != VALUE) {
                return 1 + s;
            }
        }
        return 0;
    }

    public int state(int part, int measure) throws IllegalStateException, IndexOutOfBoundsException {
        demandWorkedOut();
        return cells.state[cellNumber(part, measure)];
    }

    public long size(int part, int measure, int which)
            throws IndexOutOfBoundsException, IllegalArgumentException, IllegalStateException {
        int cell = cellNumber(part, measure);
        demandZeroOrOne(which);
        demandWorkedOut();
        if (cells.state[cell] != VALUE) {
            throw new IllegalStateException("the cell has no value");
        }
        return which == 0 ? cells.above[cell] : cells.below[cell];
    }

    public int ring(int k) throws IllegalStateException, IllegalArgumentException {
        demandRead();
        demandNotNegative(k);
        int found = 0;
        for (int cell = 0; cell < CELLS; cell++) {
            if (text.isRing(cell)) {
                if (found == k) {
                    return cell;
                }
                found++;
            }
        }
        return NONE;
    }

    public int condition(int part, int measure) throws IllegalStateException, IndexOutOfBoundsException {
        demandWorkedOut();
        return cells.chosen[cellNumber(part, measure)];
    }

    public int line(int part, int measure) throws IllegalStateException, IndexOutOfBoundsException {
        demandRead();
        return text.definedBy[cellNumber(part, measure)];
    }

    public boolean needs(int cell, int other) throws IllegalStateException, IndexOutOfBoundsException {
        demandRead();
        demandIndex(cell, CELLS);
        demandIndex(other, CELLS);
        return text.reaches(cell, other);
    }

    public int limit(int k, int what) throws IllegalStateException, IllegalArgumentException {
        demandWorkedOut();
        demandNotNegative(k);
        demandZeroOrOne(what);
        int found = 0;
        for (int s = 0; s < text.statements; s++) {
            int why = reckoner.whyBroken(text, s, cells);
            if (why != HOLDS) {
                if (found == k) {
                    return what == 0 ? s : why;
                }
                found++;
            }
        }
        return NONE;
    }

    public int check(int steps) throws IllegalStateException, IllegalArgumentException {
        demandWorkedOut();
        if (steps < 0 || steps > MOST_CHECK_STEPS) {
            throw new IllegalArgumentException("steps are 0 to 50");
        }
        long above = reckoner.optionAbove[0];
        long below = reckoner.optionBelow[0];
        int answer = NONE;
        trial.copyFrom(cells);
        for (int step = 0; step <= steps && answer == NONE; step++) {
            long raised = above + step * below;
            if (raised > LARGEST) {
                break;
            }
            reckoner.optionAbove[0] = raised;
            reckoner.workOutHanging(text, 0, trial);
            if (reckoner.isAnyBroken(text, trial)) {
                answer = step;
            }
        }
        reckoner.optionAbove[0] = above;
        return answer;
    }

    public int version() throws IllegalStateException {
        demandWorkedOut();
        if (versionCount >= MOST_VERSIONS) {
            throw new IllegalStateException("there is no room for another version");
        }
        versions[versionCount].copyFrom(cells);
        versionCount++;
        return versionCount - 1;
    }

    public int differs(int version, int k)
            throws IllegalStateException, IndexOutOfBoundsException, IllegalArgumentException {
        demandWorkedOut();
        demandIndex(version, versionCount);
        demandNotNegative(k);
        int found = 0;
        for (int cell = 0; cell < CELLS; cell++) {
            if (!cells.isAsIn(versions[version], cell)) {
                if (found == k) {
                    return cell;
                }
                found++;
            }
        }
        return NONE;
    }

    public boolean same() throws IllegalStateException {
        demandWorkedOut();
        reckoner.workOutAll(text, trial);
        for (int cell = 0; cell < CELLS; cell++) {
            if (!cells.isAsIn(trial, cell) || cells.chosen[cell] != trial.chosen[cell]) {
                return false;
            }
        }
        return true;
    }

    public long reckoned() {
        return reckonedCells;
    }

    private void demandRead() {
        if (!wasRead) {
            throw new IllegalStateException("nothing was read");
        }
    }

    private void demandWorkedOut() {
        if (!workedOut) {
            throw new IllegalStateException("nothing was worked out");
        }
    }

    private static void demandIndex(int index, int count) {
        if (index < 0 || index >= count) {
            throw new IndexOutOfBoundsException("there is no such option, part, measure, cell or version");
        }
    }

    private static void demandNotNegative(int number) {
        if (number < 0) {
            throw new IllegalArgumentException("the number is below 0");
        }
    }

    private static void demandZeroOrOne(int number) {
        if (number != 0 && number != 1) {
            throw new IllegalArgumentException("the number is neither 0 nor 1");
        }
    }

    private static int cellNumber(int part, int measure) {
        demandIndex(part, PARTS);
        demandIndex(measure, MEASURES);
        return MEASURES * part + measure;
    }

    /** The greatest common divisor, at least 1 because other is. */
    private static long commonDivisor(long one, long other) {
        long rest = one < 0 ? -one : one;
        long divisor = other;
        for (int turn = 0; turn < MOST_EUCLID_TURNS && rest > 0; turn++) {
            long next = divisor % rest;
            divisor = rest;
            rest = next;
        }
        return divisor;
    }

    /** What each cell is; a cell without a VALUE has the fraction 0 / 1, so that cells compare plainly. */
    private static final class Cells {
        final int[] state = new int[CELLS];
        final long[] above = new long[CELLS];
        final long[] below = new long[CELLS];
        final int[] chosen = new int[CELLS];

        void takeValue(int cell, long newAbove, long newBelow, int choice) {
            state[cell] = VALUE;
            above[cell] = newAbove;
            below[cell] = newBelow;
            chosen[cell] = choice;
        }

        void takeReason(int cell, int reason) {
            state[cell] = reason;
            above[cell] = 0;
            below[cell] = 1;
            chosen[cell] = NONE;
        }

        void copyFrom(Cells other) {
            System.arraycopy(other.state, 0, state, 0, CELLS);
            System.arraycopy(other.above, 0, above, 0, CELLS);
            System.arraycopy(other.below, 0, below, 0, CELLS);
            System.arraycopy(other.chosen, 0, chosen, 0, CELLS);
        }

        boolean isAsIn(Cells other, int cell) {
            return state[cell] == other.state[cell]
                    && above[cell] == other.above[cell]
                    && below[cell] == other.below[cell];
        }
    }

    /**
     * The expressions of a text, each a row of steps for a stack: an operator stands behind its
     * operands, which is just the order in which reasons are to be told.
     */
    private static final class Steps {
        final int[] kind = new int[LONGEST_TEXT];
        final int[] first = new int[LONGEST_TEXT];
        final int[] second = new int[LONGEST_TEXT];
        int count = 0;
        final int[] start = new int[LONGEST_TEXT + 1];
        final char[] signBehind = new char[LONGEST_TEXT + 1];
        int expressions = 0;

        void clear() {
            count = 0;
            expressions = 0;
            start[0] = 0;
        }

        void add(int stepKind, int stepFirst, int stepSecond) {
            if (count < LONGEST_TEXT) {
                kind[count] = stepKind;
                first[count] = stepFirst;
                second[count] = stepSecond;
                count++;
            }
        }

        void endExpression(char sign) {
            if (expressions < LONGEST_TEXT) {
                signBehind[expressions] = sign;
                expressions++;
                start[expressions] = count;
            }
        }
    }

    /**
     * What was read. A statement's expressions follow one another: left, right and chosen one of
     * each condition, and the last one; of a limit left and right.
     */
    private static final class Text {
        final char[] printed = new char[LONGEST_TEXT];
        int printedLength = 0;
        final Steps steps = new Steps();
        int statements = 0;
        final int[] cellOf = new int[MOST_STATEMENTS];
        final int[] firstExpression = new int[MOST_STATEMENTS];
        final int[] conditions = new int[MOST_STATEMENTS];
        final int[] definedBy = new int[CELLS];
        final long[] needed = new long[CELLS];
        final int[] letters = new int[CELLS];
        final int[] order = new int[MOST_STATEMENTS];
        int orderLength = 0;

        void clear() {
            printedLength = 0;
            steps.clear();
            statements = 0;
            orderLength = 0;
            for (int cell = 0; cell < CELLS; cell++) {
                definedBy[cell] = NONE;
                needed[cell] = 0;
                letters[cell] = 0;
            }
        }

        /** Opens a statement that defines a cell, or a limit if the cell is NONE. */
        void openStatement(int cell) {
            if (statements < MOST_STATEMENTS) {
                cellOf[statements] = cell;
                firstExpression[statements] = steps.expressions;
                conditions[statements] = 0;
                if (cell != NONE) {
                    definedBy[cell] = statements;
                }
                statements++;
            }
        }

        int openCell() {
            return statements > 0 ? cellOf[statements - 1] : NONE;
        }

        void mentionOption(int option) {
            steps.add(OPTION, option, 0);
            int cell = openCell();
            if (cell != NONE) {
                letters[cell] |= 1 << option;
            }
        }

        void mentionCell(int mentioned) {
            steps.add(CELL, mentioned, 0);
            int cell = openCell();
            if (cell != NONE) {
                needed[cell] |= 1L << mentioned;
            }
        }

        void countCondition() {
            if (statements > 0) {
                conditions[statements - 1]++;
            }
        }

        boolean isLimit(int statement) {
            return cellOf[statement] == NONE;
        }

        boolean reaches(int cell, int other) {
            return (needed[cell] >>> other & 1L) != 0;
        }

        boolean isRing(int cell) {
            return reaches(cell, cell);
        }

        boolean hangsOn(int cell, int option) {
            return (letters[cell] >>> option & 1) != 0;
        }

        /** Lets needs go by others, too, and what hangs on options with them. */
        void followNeeds() {
            for (int middle = 0; middle < CELLS; middle++) {
                for (int cell = 0; cell < CELLS; cell++) {
                    if (reaches(cell, middle)) {
                        needed[cell] |= needed[middle];
                        letters[cell] |= letters[middle];
                    }
                }
            }
        }

        /** Puts the definitions that are no rings in the order of need. */
        void findOrder() {
            long open = 0;
            for (int s = 0; s < statements; s++) {
                if (!isLimit(s) && !isRing(cellOf[s])) {
                    open |= 1L << cellOf[s];
                }
            }
            for (int turn = 0; turn < MOST_STATEMENTS && open != 0; turn++) {
                for (int s = 0; s < statements; s++) {
                    int cell = cellOf[s];
                    if (cell != NONE && (open >>> cell & 1L) != 0 && (needed[cell] & open) == 0) {
                        order[orderLength] = s;
                        orderLength++;
                        open &= ~(1L << cell);
                    }
                }
            }
        }
    }

    /**
     * Collects a text and reads it from the left on, into a Text that is not in use, so that what
     * was read before stays. Where it fails, `at` stands at the place that is to be told.
     */
    private static final class Reader {
        private static final char END = 0;

        private final char[] typed = new char[LONGEST_TEXT];
        private final boolean[] dropped = new boolean[LONGEST_TEXT];
        private int length = 0;
        private int at = 0;
        private Text text = new Text();
        private final int[] waiting = new int[LONGEST_TEXT];
        private int waitingCount = 0;
        private final int[] openedAt = new int[MOST_NESTED + 1];
        private final int[] shapeByOperators = new int[MOST_NESTED + 1];
        private final int[] shapeOfFactor = new int[MOST_NESTED + 1];
        private int groups = 0;
        private int nested = 0;

        boolean collect(char c) {
            if (length >= LONGEST_TEXT) {
                return false;
            }
            typed[length] = c;
            dropped[length] = false;
            length++;
            return true;
        }

        /** How many statements were read, or -1 less the place where it failed; nothing is collected then. */
        int readCollected() {
            at = 0;
            text.clear();
            boolean isGood = readStatement();
            for (int count = 1; count < MOST_STATEMENTS && isGood && pass(';'); count++) {
                isGood = readStatement();
            }
            isGood = isGood && at == length;
            if (isGood) {
                text.followNeeds();
                text.findOrder();
                print();
            }
            length = 0;
            return isGood ? text.statements : -1 - at;
        }

        /** Gives what was read away, and takes a Text that is no longer in use. */
        Text exchange(Text unused) {
            Text done = text;
            text = unused;
            return done;
        }

        private char next() {
            return at < length ? typed[at] : END;
        }

        private boolean pass(char due) {
            if (next() != due) {
                return false;
            }
            at++;
            return true;
        }

        private boolean readStatement() {
            if (pass('!')) {
                text.openStatement(NONE);
                return readCondition();
            }
            int start = at;
            int cell = readCellName();
            if (cell == NONE) {
                return false;
            }
            if (text.definedBy[cell] != NONE) {
                at = start;
                return false;
            }
            if (!pass('=')) {
                return false;
            }
            text.openStatement(cell);
            return readChoice();
        }

        private int readCellName() {
            int part = next() - 'A';
            if (part < 0 || part >= PARTS) {
                return NONE;
            }
            at++;
            int measure = MEASURE_LETTERS.indexOf(next());
            if (measure < 0) {
                return NONE;
            }
            at++;
            return MEASURES * part + measure;
        }

        private boolean readCondition() {
            return readExpression() && passSign() && readExpression();
        }

        /** A sign behind the last expression is left to the caller, to whom it can't be there. */
        private boolean readChoice() {
            for (int condition = 0; condition < MOST_CONDITIONS; condition++) {
                if (!readExpression()) {
                    return false;
                }
                if (!passSign()) {
                    return true;
                }
                if (!readExpression() || !pass('?') || !readExpression() || !pass(':')) {
                    return false;
                }
            }
            return readExpression();
        }

        private boolean passSign() {
            if (!pass('<') && !pass('>') && !pass('=')) {
                return false;
            }
            text.countCondition();
            return true;
        }

        /** Operators wait until what stands behind them binds no closer; so nothing is recursive here. */
        private boolean readExpression() {
            waitingCount = 0;
            groups = 0;
            nested = 0;
            shapeByOperators[0] = SINGLE;
            boolean goesOn = true;
            for (int turn = 0; turn < LONGEST_TEXT && goesOn; turn++) {
                if (!readFactor()) {
                    return false;
                }
                closeGroups();
                goesOn = readOperator();
            }
            if (groups > 0) {
                return false;
            }
            releaseWaiting(SINGLE);
            text.steps.endExpression(next());
            return true;
        }

        private boolean readFactor() {
            for (; nested < MOST_NESTED && (next() == '-' || next() == '('); nested++) {
                if (next() == '-') {
                    hold(NEGATE);
                } else {
                    openGroup();
                }
                at++;
            }
            shapeOfFactor[groups] = SINGLE;
            char c = next();
            if (c >= '0' && c <= '9') {
                if (!readNumber()) {
                    return false;
                }
            } else if (c >= 'a' && c - 'a' < OPTIONS) {
                text.mentionOption(c - 'a');
                at++;
            } else {
                int cell = readCellName();
                if (cell == NONE) {
                    return false;
                }
                text.mentionCell(cell);
            }
            releaseNegations();
            return true;
        }

        private boolean readNumber() {
            int start = at;
            int above = readDigits(0, MOST_DIGITS);
            for (int i = start; i < at - 1 && typed[i] == '0'; i++) {
                dropped[i] = true;
            }
            int below = 1;
            int point = at;
            if (next() == '.') {
                at++;
                above = readDigits(above, MOST_DIGITS_BEHIND_POINT);
                if (at == point + 1) {
                    return false;
                }
                for (int i = point + 1; i < at; i++) {
                    below *= 10;
                }
                dropZerosBehind(point);
            }
            text.steps.add(NUMBER, above, below);
            return true;
        }

        private int readDigits(int before, int most) {
            int number = before;
            for (int i = 0; i < most && at < length && typed[at] >= '0' && typed[at] <= '9'; i++) {
                number = 10 * number + (typed[at] - '0');
                at++;
            }
            return number;
        }

        private void dropZerosBehind(int point) {
            int last = at - 1;
            while (last > point && typed[last] == '0') {
                dropped[last] = true;
                last--;
            }
            if (last == point) {
                dropped[point] = true;
            }
        }

        private void openGroup() {
            hold(GROUP);
            groups++;
            openedAt[groups] = at;
            shapeByOperators[groups] = SINGLE;
        }

        private void closeGroups() {
            while (groups > 0 && next() == ')') {
                releaseWaiting(SINGLE);
                waitingCount--;
                int shape = shapeByOperators[groups] == SINGLE ? shapeOfFactor[groups] : shapeByOperators[groups];
                int before = lastWaiting();
                int opened = openedAt[groups];
                int closed = at;
                at++;
                if (!areNeededAround(shape, before, next())) {
                    dropped[opened] = true;
                    dropped[closed] = true;
                }
                groups--;
                nested--;
                shapeOfFactor[groups] = before == NEGATE ? SINGLE : shape;
                releaseNegations();
            }
        }

        /** Whether ( ) must stay around what has such a shape, between an operator and a character. */
        private static boolean areNeededAround(int shape, int before, char behind) {
            boolean isBoundBefore = before == NEGATE || before == MULTIPLY || before == DIVIDE;
            if (shape == SUM) {
                return isBoundBefore || before == ADD || before == SUBTRACT || behind == '*' || behind == '/';
            }
            return shape == PRODUCT && isBoundBefore;
        }

        private boolean readOperator() {
            int operator = operatorOf(next());
            if (operator == NOTHING) {
                return false;
            }
            int shape = shapeBy(operator);
            releaseWaiting(shape);
            hold(operator);
            shapeByOperators[groups] = Math.max(shapeByOperators[groups], shape);
            at++;
            return true;
        }

        private static int operatorOf(char c) {
            if (c == '+') {
                return ADD;
            }
            if (c == '-') {
                return SUBTRACT;
            }
            if (c == '*') {
                return MULTIPLY;
            }
            return c == '/' ? DIVIDE : NOTHING;
        }

        private static int shapeBy(int operator) {
            return operator == ADD || operator == SUBTRACT ? SUM : PRODUCT;
        }

        private void hold(int operator) {
            if (waitingCount < LONGEST_TEXT) {
                waiting[waitingCount] = operator;
                waitingCount++;
            }
        }

        private int lastWaiting() {
            return waitingCount > 0 ? waiting[waitingCount - 1] : NOTHING;
        }

        /** Releases the operators of this group that bind as closely as a shape's, or closer; SINGLE: all. */
        private void releaseWaiting(int shape) {
            while (waitingCount > 0 && lastWaiting() != GROUP
                    && (shape != PRODUCT || shapeBy(lastWaiting()) == PRODUCT)) {
                text.steps.add(lastWaiting(), 0, 0);
                waitingCount--;
            }
        }

        private void releaseNegations() {
            while (waitingCount > 0 && lastWaiting() == NEGATE) {
                text.steps.add(NEGATE, 0, 0);
                waitingCount--;
                nested--;
            }
        }

        private void print() {
            for (int i = 0; i < length; i++) {
                if (!dropped[i]) {
                    text.printed[text.printedLength] = typed[i];
                    text.printedLength++;
                }
            }
        }
    }

    /** Reckons with the options as they are; what came out lies at the bottom of the stack. */
    private static final class Reckoner {
        final long[] optionAbove = new long[OPTIONS];
        final long[] optionBelow = new long[OPTIONS];
        private final long[] above = new long[DEEPEST_STACK];
        private final long[] below = new long[DEEPEST_STACK];
        private int height = 0;
        private int reason = VALUE;

        Reckoner() {
            for (int option = 0; option < OPTIONS; option++) {
                optionBelow[option] = 1;
            }
        }

        /** Gives an option a fraction: whether it was another one. */
        boolean changeOption(int option, long newAbove, long newBelow) {
            long divisor = commonDivisor(newAbove, newBelow);
            if (divisor < 1) {
                return false;
            }
            long plainAbove = newAbove / divisor;
            long plainBelow = newBelow / divisor;
            boolean isOther = optionAbove[option] != plainAbove || optionBelow[option] != plainBelow;
            optionAbove[option] = plainAbove;
            optionBelow[option] = plainBelow;
            return isOther;
        }

        void workOutAll(Text text, Cells cells) {
            for (int cell = 0; cell < CELLS; cell++) {
                cells.takeReason(cell, text.isRing(cell) ? RING : UNDEFINED);
            }
            for (int i = 0; i < text.orderLength; i++) {
                workOut(text, text.order[i], cells);
            }
        }

        /** Works out again what hangs on an option: how many cells. */
        int workOutHanging(Text text, int option, Cells cells) {
            int count = 0;
            for (int i = 0; i < text.orderLength; i++) {
                int statement = text.order[i];
                if (text.hangsOn(text.cellOf[statement], option)) {
                    workOut(text, statement, cells);
                    count++;
                }
            }
            return count;
        }

        private void workOut(Text text, int statement, Cells cells) {
            int cell = text.cellOf[statement];
            int expression = text.firstExpression[statement];
            int choice = 0;
            for (; choice < text.conditions[statement]; choice++) {
                int outcome = judge(text.steps, expression, cells);
                if (outcome == HOLDS) {
                    expression += 2;
                    break;
                }
                if (outcome != FAILS) {
                    cells.takeReason(cell, outcome);
                    return;
                }
                expression += 3;
            }
            if (reckon(text.steps, expression, cells)) {
                cells.takeValue(cell, above[0], below[0], choice);
            } else {
                cells.takeReason(cell, reason);
            }
        }

        boolean isAnyBroken(Text text, Cells cells) {
            for (int s = 0; s < text.statements; s++) {
                if (whyBroken(text, s, cells) != HOLDS) {
                    return true;
                }
            }
            return false;
        }

        /** Why a statement is a broken limit: FAILS or a reason; HOLDS if it is none. */
        int whyBroken(Text text, int statement, Cells cells) {
            return text.isLimit(statement) ? judge(text.steps, text.firstExpression[statement], cells) : HOLDS;
        }

        /** What the condition is whose left side is an expression: HOLDS, FAILS or a reason. */
        private int judge(Steps steps, int left, Cells cells) {
            if (!reckon(steps, left, cells)) {
                return reason;
            }
            long leftAbove = above[0];
            long leftBelow = below[0];
            if (!reckon(steps, left + 1, cells)) {
                return reason;
            }
            int order = Long.compare(leftAbove * below[0], above[0] * leftBelow);
            char sign = steps.signBehind[left];
            boolean holds = sign == '<' ? order < 0 : sign == '>' ? order > 0 : order == 0;
            return holds ? HOLDS : FAILS;
        }

        /** Whether an expression has a value; if not, reason says why. */
        private boolean reckon(Steps steps, int expression, Cells cells) {
            height = 0;
            reason = VALUE;
            if (expression < 0 || expression >= steps.expressions) {
                return false;
            }
            for (int i = steps.start[expression]; i < steps.start[expression + 1] && reason == VALUE; i++) {
                int first = steps.first[i];
                switch (steps.kind[i]) {
                    case NUMBER:
                        settle(first, steps.second[i]);
                        break;
                    case OPTION:
                        push(optionAbove[first], optionBelow[first]);
                        break;
                    case CELL:
                        pushCell(first, cells);
                        break;
                    case NEGATE:
                        negate();
                        break;
                    default:
                        join(steps.kind[i]);
                        break;
                }
            }
            return reason == VALUE;
        }

        private void pushCell(int cell, Cells cells) {
            if (cells.state[cell] == VALUE) {
                push(cells.above[cell], cells.below[cell]);
            } else {
                reason = MISSED;
            }
        }

        private void negate() {
            if (height > 0) {
                above[height - 1] = -above[height - 1];
            }
        }

        /** The two fractions on top become one; no product here comes near the end of a long. */
        private void join(int operator) {
            if (height < 2) {
                return;
            }
            height -= 2;
            long leftAbove = above[height];
            long leftBelow = below[height];
            long rightAbove = above[height + 1];
            long rightBelow = below[height + 1];
            switch (operator) {
                case ADD:
                    settle(leftAbove * rightBelow + rightAbove * leftBelow, leftBelow * rightBelow);
                    break;
                case SUBTRACT:
                    settle(leftAbove * rightBelow - rightAbove * leftBelow, leftBelow * rightBelow);
                    break;
                case MULTIPLY:
                    settle(leftAbove * rightAbove, leftBelow * rightBelow);
                    break;
                default:
                    if (rightAbove == 0) {
                        reason = DIVISION;
                    } else if (rightAbove > 0) {
                        settle(leftAbove * rightBelow, leftBelow * rightAbove);
                    } else {
                        settle(-leftAbove * rightBelow, leftBelow * -rightAbove);
                    }
                    break;
            }
        }

        private void settle(long newAbove, long newBelow) {
            long divisor = commonDivisor(newAbove, newBelow);
            if (divisor < 1) {
                return;
            }
            long plainAbove = newAbove / divisor;
            long plainBelow = newBelow / divisor;
            if (plainAbove > LARGEST || plainAbove < -LARGEST || plainBelow > LARGEST) {
                reason = BIG;
            } else {
                push(plainAbove, plainBelow);
            }
        }

        private void push(long newAbove, long newBelow) {
            if (height < DEEPEST_STACK) {
                above[height] = newAbove;
                below[height] = newBelow;
                height++;
            }
        }
    }
}
