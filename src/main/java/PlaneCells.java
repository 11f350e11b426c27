/**
 * Decides sentences about all real numbers x and y: the plane is cut into columns, each column
 * into cells, in each of which every polynomial of the sentence has one sign.
 *
 * All reckoning is in whole numbers, so no answer hangs on a rounding; all rows are made with the
 * object, so no later call makes an object.
 */
public final class PlaneCells {
    public static final int ILL = -1;
    public static final int ROOM = -2;
    public static final int NONE = 9;

    private static final int TEXT_ROOM = 80;
    private static final int OPENING_ROOM = 8;
    private static final int ATOM_ROOM = 8;
    private static final int LARGEST_NUMBER = 5;
    private static final int NUMBERS = 4;
    /** One zero for each a and each b, two for each pair of polynomials. */
    private static final int CRITICAL_ROOM = 2 * ATOM_ROOM + ATOM_ROOM * (ATOM_ROOM - 1);
    private static final int LARGEST_TOP = 1000;
    private static final int LARGEST_BOTTOM = 100;

    // What a formula is made of, in the order in which it binds; atom p is ATOM + p.
    private static final int OPENING = 0;
    private static final int OR = 1;
    private static final int AND = 2;
    private static final int NOT = 3;
    private static final int ATOM = 4;

    private final Sentence sentence;
    private final Reader reader;
    private final Plane plane;
    private int illPlace;
    private int columnCount;
    private int witnessColumn;

    public PlaneCells() {
        sentence = new Sentence();
        reader = new Reader(sentence);
        plane = new Plane(sentence);
        illPlace = -1;
        columnCount = 0;
        witnessColumn = -1;
    }

    public boolean write(char c) {
        return reader.append(c);
    }

    public int decide() {
        int refusal = readText();
        reader.clear();
        columnCount = 0;
        witnessColumn = -1;
        if (refusal < 0) {
            sentence.clear();
            return refusal;
        }
        plane.cut();
        columnCount = plane.countColumns();
        for (int i = 0; i < columnCount && witnessColumn < 0; i++) {
            plane.enter(i);
            if (plane.columnHolds() != sentence.allX) {
                witnessColumn = i;
            }
        }
        return sentence.allX == (witnessColumn < 0) ? 1 : 0;
    }

    /** Answers ILL or ROOM if the text can't be decided, 0 if it can. */
    private int readText() {
        illPlace = -1;
        if (reader.countOpenings() > OPENING_ROOM) {
            return ROOM;
        }
        if (!reader.readSentence()) {
            illPlace = reader.at;
            return ILL;
        }
        return sentence.fits() ? 0 : ROOM;
    }

    public int place() {
        return illPlace;
    }

    public int polynomials() {
        return sentence.atoms;
    }

    public int coefficient(int p, int k) {
        if (!hasPolynomial(p) || k < 0 || k >= NUMBERS) {
            return NONE;
        }
        return sentence.number(p, k);
    }

    public int columns() {
        return columnCount;
    }

    public int cells(int i) {
        return enterColumn(i) ? plane.cellCount : 0;
    }

    public int sign(int i, int j, int p) {
        if (!hasPolynomial(p) || !enterColumn(i) || !hasCell(j)) {
            return NONE;
        }
        return plane.signIn(j, p);
    }

    public int truth(int i, int j) {
        if (!enterColumn(i) || !hasCell(j)) {
            return NONE;
        }
        return plane.trueIn(j) ? 1 : 0;
    }

    public int holds(int i) {
        if (!enterColumn(i)) {
            return NONE;
        }
        return plane.columnHolds() ? 1 : 0;
    }

    public int witness() {
        return witnessColumn;
    }

    public int compare(int i, int n, int d) {
        boolean isNumber = n >= -LARGEST_TOP && n <= LARGEST_TOP && d >= 1 && d <= LARGEST_BOTTOM;
        if (!isNumber || !hasColumn(i) || (i & 1) == 0) {
            return NONE;
        }
        return plane.critical.signAt(i >> 1, -n, d, 0);
    }

    private boolean hasPolynomial(int p) {
        return p >= 0 && p < sentence.atoms;
    }

    private boolean hasColumn(int i) {
        return i >= 0 && i < columnCount;
    }

    private boolean hasCell(int j) {
        return j >= 0 && j < plane.cellCount;
    }

    private boolean enterColumn(int i) {
        if (!hasColumn(i)) {
            return false;
        }
        plane.enter(i);
        return true;
    }

    /** A sentence that was read: its polynomials, and its formula, each operator behind what it joins. */
    private static final class Sentence {
        private final int[] numbers = new int[ATOM_ROOM * NUMBERS];
        private final char[] relations = new char[ATOM_ROOM];
        private final int[] steps = new int[TEXT_ROOM];
        private int stepCount;
        private int atoms;
        private boolean allX;
        private boolean allY;

        void clear() {
            stepCount = 0;
            atoms = 0;
        }

        /** Atoms beyond the room are only counted: ILL, which a later character may tell, goes before. */
        void addAtom(int[] sum, char relation) {
            if (atoms < ATOM_ROOM) {
                System.arraycopy(sum, 0, numbers, atoms * NUMBERS, NUMBERS);
                relations[atoms] = relation;
            }
            addStep(ATOM + atoms);
            atoms++;
        }

        /** The room is never short, since each step stands for at least one character of the text. */
        void addStep(int step) {
            if (stepCount < TEXT_ROOM) {
                steps[stepCount] = step;
                stepCount++;
            }
        }

        boolean fits() {
            if (atoms > ATOM_ROOM) {
                return false;
            }
            for (int i = 0; i < atoms * NUMBERS; i++) {
                if (numbers[i] < -LARGEST_NUMBER || numbers[i] > LARGEST_NUMBER) {
                    return false;
                }
            }
            return true;
        }

        int number(int p, int k) {
            return numbers[p * NUMBERS + k];
        }

        boolean atomIsTrue(int p, int signOfPolynomial) {
            if (relations[p] == '=') {
                return signOfPolynomial == 0;
            }
            return signOfPolynomial == (relations[p] == '<' ? -1 : 1);
        }
    }

    /**
     * Keeps the text and reads it. It goes on only over characters that can stand where they are,
     * so where it stops the text is ill-formed.
     */
    private static final class Reader {
        private static final char END = '\0';

        private final Sentence sentence;
        private final char[] text = new char[TEXT_ROOM];
        private final int[] waiting = new int[TEXT_ROOM];
        private final int[] sum = new int[NUMBERS];
        private int written;
        private int length;
        private int at;
        private int waitingCount;
        private int open;

        Reader(Sentence sentence) {
            this.sentence = sentence;
        }

        void clear() {
            written = 0;
            length = 0;
        }

        /** Blanks take room but aren't kept: places are counted without them. */
        boolean append(char c) {
            if (c < ' ' || c > '~' || written >= TEXT_ROOM) {
                return false;
            }
            written++;
            if (c != ' ') {
                text[length] = c;
                length++;
            }
            return true;
        }

        int countOpenings() {
            int count = 0;
            for (int i = 0; i < length; i++) {
                if (text[i] == '(') {
                    count++;
                }
            }
            return count;
        }

        /** Operators wait in a row until what they join was read, so no depth of a formula costs calls. */
        boolean readSentence() {
            at = 0;
            waitingCount = 0;
            open = 0;
            sentence.clear();
            if (!takeHead()) {
                return false;
            }
            for (int atom = 0; atom < length; atom++) {
                takeOpenings();
                if (!takeAtom()) {
                    return false;
                }
                takeClosings();
                if (!takeJoint()) {
                    release(OR);
                    return at == length && open == 0;
                }
            }
            return false;
        }

        private boolean takeHead() {
            sentence.allX = peek() == 'A';
            if (!takeQuantifier() || !take('x')) {
                return false;
            }
            sentence.allY = peek() == 'A';
            return takeQuantifier() && take('y') && take(':');
        }

        private boolean takeQuantifier() {
            return take('A') || take('E');
        }

        private void takeOpenings() {
            for (; at < length && (text[at] == '~' || text[at] == '('); at++) {
                if (text[at] == '(') {
                    open++;
                    hold(OPENING);
                } else {
                    hold(NOT);
                }
            }
        }

        /** One of the parentheses that wait is there for each that is open, and release stops at it. */
        private void takeClosings() {
            for (; open > 0 && peek() == ')'; at++) {
                release(OR);
                waitingCount--;
                open--;
            }
        }

        private boolean takeJoint() {
            int joint = peek() == '&' ? AND : OR;
            if (!take('&') && !take('|')) {
                return false;
            }
            release(joint);
            hold(joint);
            return true;
        }

        /** The room is never short, since each that waits is one character of the text. */
        private void hold(int operator) {
            if (waitingCount < TEXT_ROOM) {
                waiting[waitingCount] = operator;
                waitingCount++;
            }
        }

        /** Writes out what binds at least as the given operator does, up to the latest open parenthesis. */
        private void release(int loosest) {
            for (; waitingCount > 0 && waiting[waitingCount - 1] >= loosest; waitingCount--) {
                sentence.addStep(waiting[waitingCount - 1]);
            }
        }

        private boolean takeAtom() {
            for (int k = 0; k < NUMBERS; k++) {
                sum[k] = 0;
            }
            if (!takeSum(1)) {
                return false;
            }
            char relation = peek();
            boolean related = take('<') || take('=') || take('>');
            if (!related || !takeSum(-1)) {
                return false;
            }
            sentence.addAtom(sum, relation);
            return true;
        }

        /** Adds the sum, times 1 or -1 for its side, to the polynomial of the atom. */
        private boolean takeSum(int side) {
            int factor = take('-') ? -side : side;
            for (int term = 0; term < length; term++) {
                if (!takeTerm(factor)) {
                    return false;
                }
                if (take('-')) {
                    factor = -side;
                } else if (take('+')) {
                    factor = side;
                } else {
                    return true;
                }
            }
            return false;
        }

        private boolean takeTerm(int factor) {
            int from = at;
            int number = factor;
            char digit = peek();
            if (digit >= '0' && digit <= '9') {
                number = factor * (digit - '0');
                at++;
            }
            int letters = 0;
            for (int i = 0; i < 2; i++) {
                int letter = numberOfLetter(peek());
                if ((letters & letter) == letter) {
                    break;
                }
                letters += letter;
                at++;
            }
            if (at == from) {
                return false;
            }
            sum[letters] += number;
            return true;
        }

        /** So numbered, the letters of a term add up to the k of its number ck. */
        private static int numberOfLetter(char c) {
            return c == 'x' ? 1 : c == 'y' ? 2 : 0;
        }

        private char peek() {
            return at < length ? text[at] : END;
        }

        private boolean take(char c) {
            if (peek() != c) {
                return false;
            }
            at++;
            return true;
        }
    }

    /** A polynomial in x alone, of degree 2 at most; one object stands for one after the other. */
    private static final class Form {
        private int constant;
        private int linear;
        private int square;

        void setA(Sentence s, int p) {
            constant = s.number(p, 2);
            linear = s.number(p, 3);
            square = 0;
        }

        void setB(Sentence s, int p) {
            constant = s.number(p, 0);
            linear = s.number(p, 1);
            square = 0;
        }

        /** a of p times b of q less a of q times b of p. */
        void setPair(Sentence s, int p, int q) {
            constant = s.number(p, 2) * s.number(q, 0) - s.number(q, 2) * s.number(p, 0);
            linear = s.number(p, 2) * s.number(q, 1) + s.number(p, 3) * s.number(q, 0)
                    - s.number(q, 2) * s.number(p, 1) - s.number(q, 3) * s.number(p, 0);
            square = s.number(p, 3) * s.number(q, 1) - s.number(q, 3) * s.number(p, 1);
        }
    }

    /**
     * The critical numbers, each once, the least first. Number k is (top + R(radicand)) / bottom,
     * bottom above 0; here R(r) is the square root of r, or less that of -r if r is below 0.
     *
     * R(r) + R(u) has the sign of r + u, and n is R(n |n|): by this the signs below are found
     * without a root. With numbers -5 .. 5 a form has at most 50, 100, 50, so top and bottom are
     * at most 100, radicand 20,000, and no product here comes near the end of long.
     */
    private static final class CriticalNumbers {
        private final int[] top = new int[CRITICAL_ROOM];
        private final int[] radicand = new int[CRITICAL_ROOM];
        private final int[] bottom = new int[CRITICAL_ROOM];
        private int count;

        void clear() {
            count = 0;
        }

        void addZerosOf(Form f) {
            if (f.square != 0) {
                int inside = f.linear * f.linear - 4 * f.square * f.constant;
                int middle = f.square > 0 ? -f.linear : f.linear;
                if (inside >= 0) {
                    add(middle, -inside, 2 * Math.abs(f.square));
                    add(middle, inside, 2 * Math.abs(f.square));
                }
            } else if (f.linear != 0) {
                add(f.linear > 0 ? -f.constant : f.constant, 0, Math.abs(f.linear));
            }
        }

        private void add(int newTop, int newRadicand, int newBottom) {
            int k = 0;
            for (; k < count; k++) {
                int difference = signOfDifference(k, newTop, newRadicand, newBottom);
                if (difference == 0) {
                    return;
                }
                if (difference > 0) {
                    break;
                }
            }
            insert(k, newTop, newRadicand, newBottom);
        }

        /** The room is never short: it has a place for each zero that a form can have. */
        private void insert(int k, int newTop, int newRadicand, int newBottom) {
            if (count >= CRITICAL_ROOM) {
                return;
            }
            for (int i = count; i > k; i--) {
                top[i] = top[i - 1];
                radicand[i] = radicand[i - 1];
                bottom[i] = bottom[i - 1];
            }
            top[k] = newTop;
            radicand[k] = newRadicand;
            bottom[k] = newBottom;
            count++;
        }

        /** The sign of number k less another one that is critical. */
        private int signOfDifference(int k, int otherTop, int otherRadicand, int otherBottom) {
            long whole = (long) top[k] * otherBottom - (long) otherTop * bottom[k];
            long mine = (long) radicand[k] * otherBottom * otherBottom;
            long others = (long) otherRadicand * bottom[k] * bottom[k];
            return signWithRoots(whole, mine, -others);
        }

        /** The sign of whole + R(r) + R(u); where whole and the roots pull apart, their squares tell. */
        private static int signWithRoots(long whole, long r, long u) {
            int signOfWhole = Long.signum(whole);
            int signOfRoots = Long.signum(r + u);
            if (signOfWhole * signOfRoots >= 0) {
                return signOfWhole != 0 ? signOfWhole : signOfRoots;
            }
            long rest = whole * whole - Math.abs(r) - Math.abs(u);
            return signOfWhole * Long.signum(rest * Math.abs(rest) - 4 * r * u);
        }

        /**
         * The sign of a form in a column, if its zeros are critical: then between two critical
         * numbers it has the sign that it has just behind the first.
         */
        int signInColumn(int column, Form f) {
            if (column == 0) {
                return signBelowAll(f);
            }
            int k = (column - 1) >> 1;
            int signThere = signAt(k, f.constant, f.linear, f.square);
            if (signThere != 0 || (column & 1) == 1) {
                return signThere;
            }
            int slopeThere = signAt(k, f.linear, 2 * f.square, 0);
            return slopeThere != 0 ? slopeThere : Integer.signum(f.square);
        }

        private static int signBelowAll(Form f) {
            if (f.square != 0) {
                return Integer.signum(f.square);
            }
            return f.linear != 0 ? -Integer.signum(f.linear) : Integer.signum(f.constant);
        }

        /** The sign of constant + linear x + square x x where x is number k. */
        int signAt(int k, long constant, long linear, long square) {
            long t = top[k];
            long b = bottom[k];
            long r = radicand[k];
            long whole = constant * b * b + linear * t * b + square * (t * t + Math.abs(r));
            long factor = linear * b + 2 * square * t;
            return Long.signum(whole * Math.abs(whole) + factor * Math.abs(factor) * r);
        }
    }

    /** The plane as the sentence cuts it, and the one column of it that was entered last. */
    private static final class Plane {
        private final Sentence sentence;
        private final CriticalNumbers critical = new CriticalNumbers();
        private final Form form = new Form();
        private final int[] signOfA = new int[ATOM_ROOM];
        private final int[] signOfB = new int[ATOM_ROOM];
        private final int[] zeroCell = new int[ATOM_ROOM];
        private int cellCount;

        Plane(Sentence sentence) {
            this.sentence = sentence;
        }

        void cut() {
            critical.clear();
            for (int p = 0; p < sentence.atoms; p++) {
                form.setA(sentence, p);
                critical.addZerosOf(form);
                form.setB(sentence, p);
                critical.addZerosOf(form);
                for (int q = 0; q < p; q++) {
                    form.setPair(sentence, p, q);
                    critical.addZerosOf(form);
                }
            }
        }

        int countColumns() {
            return 2 * critical.count + 1;
        }

        void enter(int column) {
            cellCount = 1;
            for (int p = 0; p < sentence.atoms; p++) {
                form.setA(sentence, p);
                signOfA[p] = critical.signInColumn(column, form);
                form.setB(sentence, p);
                signOfB[p] = critical.signInColumn(column, form);
                zeroCell[p] = 0;
                if (signOfA[p] != 0) {
                    addZero(column, p);
                }
            }
        }

        /** Puts the y at which p is 0 among those of the ones before p; whoever has none has cell 0. */
        private void addZero(int column, int p) {
            int cell = 1;
            for (int q = 0; q < p; q++) {
                if (signOfA[q] == 0) {
                    continue;
                }
                form.setPair(sentence, p, q);
                int order = critical.signInColumn(column, form) * signOfA[p] * signOfA[q];
                if (order == 0) {
                    zeroCell[p] = zeroCell[q];
                    return;
                }
                if (order > 0) {
                    cell = Math.max(cell, zeroCell[q] + 2);
                }
            }
            for (int q = 0; q < p; q++) {
                if (zeroCell[q] >= cell) {
                    zeroCell[q] += 2;
                }
            }
            zeroCell[p] = cell;
            cellCount += 2;
        }

        int signIn(int cell, int p) {
            return signOfA[p] == 0 ? signOfB[p] : signOfA[p] * Integer.signum(cell - zeroCell[p]);
        }

        /** The truths that wait to be joined, one of an atom at most, are bits: the latest is the lowest. */
        boolean trueIn(int cell) {
            int truths = 0;
            for (int i = 0; i < sentence.stepCount; i++) {
                int step = sentence.steps[i];
                if (step >= ATOM) {
                    int p = step - ATOM;
                    truths = truths << 1 | (sentence.atomIsTrue(p, signIn(cell, p)) ? 1 : 0);
                } else if (step == NOT) {
                    truths ^= 1;
                } else if (step == AND) {
                    truths = truths >> 1 & (truths | ~1);
                } else {
                    truths = truths >> 1 | truths & 1;
                }
            }
            return (truths & 1) == 1;
        }

        boolean columnHolds() {
            for (int cell = 0; cell < cellCount; cell++) {
                if (trueIn(cell) != sentence.allY) {
                    return !sentence.allY;
                }
            }
            return sentence.allY;
        }
    }
}
