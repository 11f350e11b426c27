/**
 * The promises 1 to 13 and the constants, each sentence that names a boundary case: each method
 * stands for the sentence above it and asks on both sides of the boundary.
 */
public final class BoundariesTest {
    private static final int ILL = PlaneCells.ILL;
    private static final int ROOM = PlaneCells.ROOM;
    private static final int NONE = PlaneCells.NONE;
    private static final int LOW = Integer.MIN_VALUE;
    private static final int HIGH = Integer.MAX_VALUE;
    /** Far outside, among them those that land inside again if they are doubled, halved, or times 4 wrap around. */
    private static final int[] OUTSIDE = {
        LOW, LOW + 1, LOW + 2, -65536, -256, -9, -8, -4, -3, -2, -1, 145, 146, 255, 256, 257, 65536, 65537,
        1 << 28, 1 << 29, 1 << 30, (1 << 30) + 1, -(1 << 30), -(1 << 30) + 1, HIGH - 2, HIGH - 1, HIGH,
    };
    private static final String NINE_OPENINGS = "(((((((((";
    private static final String NINE_ATOMS = "ExEy:0<1" + "|0<1".repeat(8);
    private static final String NUMBER_SIX = "ExEy:6x<1";
    private static final String[] REFUSED = {
        "", "   ", "?", "ExEy:x", "ExEy:x<1)", "ExEy:~", "ExEy:(((", "ExEy:~(~(0<1", "ExEy:0<1|", "ExEy:0<1|0<0&",
        NINE_OPENINGS, NINE_ATOMS, NUMBER_SIX,
    };
    /** Columns of 5, 3 and 5 cells; polynomials xy - 1 and y. */
    private static final String HYPERBOLA = "ExAy:xy<1|y>0";
    private static final Checks CHECKS = new Checks("BoundariesTest");

    public static void main(String[] args) {
        valuesOfTheConstants();
        newText();
        newNothingWasDecided();
        writeCodes();
        writeRoom();
        writeRefusedChangesNothing();
        writeLeavesWhatWasDecided();
        decideTakesTheText();
        decideOpenings();
        decideOpeningsBeforeIll();
        decideAtoms();
        decideNumbers();
        decideNumbersOfEachPolynomial();
        decideNumbersOnTheWay();
        decideIllBeforeRoom();
        decideForgets();
        placeOfIll();
        placeWithoutIll();
        placeOfTheLatest();
        polynomialsCounted();
        coefficientPolynomials();
        coefficientNumbers();
        columnsCounted();
        cellsOfColumns();
        signColumns();
        signCells();
        signPolynomials();
        truthColumnsAndCells();
        holdsColumns();
        witnessLowest();
        witnessNone();
        compareSides();
        compareNearest();
        compareColumns();
        compareTops();
        compareBottoms();
        questionsChangeNothing();
        anyCallsEnd();
        CHECKS.end();
    }

    private static void due(String what, int got, int want) {
        CHECKS.due(what, got, want);
    }

    private static void due(String what, boolean got, boolean want) {
        CHECKS.due(what, got, want);
    }

    private static void dueVerdict(String text, int want) {
        due("decide of " + text, Checks.decide(new PlaneCells(), text), want);
    }

    private static PlaneCells decided(String text) {
        return Checks.decided(text);
    }

    private static void nothingIsThere(String when, PlaneCells plane) {
        due(when + ": polynomials()", plane.polynomials(), 0);
        due(when + ": columns()", plane.columns(), 0);
        due(when + ": witness()", plane.witness(), -1);
        for (int i = -1; i <= 7; i++) {
            due(when + ": coefficient(" + i + ", 0)", plane.coefficient(i, 0), NONE);
            due(when + ": coefficient(0, " + i + ")", plane.coefficient(0, i), NONE);
            due(when + ": cells(" + i + ")", plane.cells(i), 0);
            due(when + ": sign(" + i + ", 0, 0)", plane.sign(i, 0, 0), NONE);
            due(when + ": sign(0, " + i + ", 0)", plane.sign(0, i, 0), NONE);
            due(when + ": sign(0, 0, " + i + ")", plane.sign(0, 0, i), NONE);
            due(when + ": truth(" + i + ", 0)", plane.truth(i, 0), NONE);
            due(when + ": truth(0, " + i + ")", plane.truth(0, i), NONE);
            due(when + ": holds(" + i + ")", plane.holds(i), NONE);
            due(when + ": compare(" + i + ", 0, 1)", plane.compare(i, 0, 1), NONE);
        }
    }

    /** "ILL = -1: Ill-formed. ROOM = -2: Too much. NONE = 9: Nothing is there" */
    private static void valuesOfTheConstants() {
        due("ILL", PlaneCells.ILL, -1);
        due("ROOM", PlaneCells.ROOM, -2);
        due("NONE", PlaneCells.NONE, 9);
        due("an answer ILL", decided("").decide(), -1);
        due("an answer ROOM", Checks.decide(new PlaneCells(), NINE_ATOMS), -2);
        due("an answer NONE", new PlaneCells().holds(0), 9);
    }

    // Promise 1: "An empty text; nothing was decided."

    private static void newText() {
        PlaneCells plane = new PlaneCells();
        due("1: decide() of a new one", plane.decide(), ILL);
        due("1: its place()", plane.place(), 0);
        due("1: room for 80", Checks.write(new PlaneCells(), "x".repeat(80)), true);
        due("1: no room for 81", Checks.write(new PlaneCells(), "x".repeat(81)), false);
        PlaneCells other = new PlaneCells();
        Checks.write(plane, "ExEy:");
        due("1: the text of another one", Checks.decide(other, "0<1"), ILL);
        due("1: the place in another one", other.place(), 0);
    }

    private static void newNothingWasDecided() {
        due("1: place()", new PlaneCells().place(), -1);
        nothingIsThere("1: new", new PlaneCells());
        decided(HYPERBOLA);
        nothingIsThere("1: new beside another", new PlaneCells());
    }

    // Promise 2: "Appends a character to the text; false if its code isn't 32 .. 126 or 80 (blanks, too) are there."

    private static void writeCodes() {
        int[] refused = {0, 1, 9, 10, 13, 31, 127, 128, 160, 255, 256 + 32, 256 + 126, 32768 + 65, 65535};
        int[] taken = {32, 33, 65, 125, 126};
        for (int code : refused) {
            due("2: write of " + code, new PlaneCells().write((char) code), false);
        }
        for (int code : taken) {
            due("2: write of " + code, new PlaneCells().write((char) code), true);
        }
    }

    private static void writeRoom() {
        for (char c : new char[] {' ', 'x', '(', '~', '?'}) {
            PlaneCells plane = new PlaneCells();
            for (int n = 1; n <= 83; n++) {
                due("2: write of " + c + ", the " + n + ".", plane.write(c), n <= 80);
            }
        }
        PlaneCells mixed = new PlaneCells();
        due("2: 40 blanks and 40 others", Checks.write(mixed, " x".repeat(40)), true);
        due("2: one more blank", mixed.write(' '), false);
        due("2: one more other", mixed.write('x'), false);
        due("2: a code that is wrong anyway", mixed.write('\n'), false);
    }

    private static void writeRefusedChangesNothing() {
        PlaneCells plane = new PlaneCells();
        for (int n = 0; n < 100; n++) {
            due("2: refused", plane.write((char) (n % 2 == 0 ? 127 : 31)), false);
        }
        due("2: the refused took no room", Checks.write(plane, " ".repeat(72) + "ExEy:0<1"), true);
        due("2: refused as there are 80", plane.write('?'), false);
        due("2: the refused are not in the text", plane.decide(), 1);
        Checks.write(plane, "Ex");
        plane.write((char) 127);
        due("2: one refused in between", Checks.decide(plane, "Ey:0<1"), 1);
    }

    private static void writeLeavesWhatWasDecided() {
        PlaneCells plane = decided(HYPERBOLA);
        Checks.write(plane, "x".repeat(80));
        plane.write('x');
        due("2: columns()", plane.columns(), 3);
        due("2: polynomials()", plane.polynomials(), 2);
        due("2: witness()", plane.witness(), 1);
        due("2: truth(0, 0)", plane.truth(0, 0), 0);
        due("2: truth(2, 4)", plane.truth(2, 4), 1);
        due("2: place()", plane.place(), -1);
    }

    /** Promise 3: "Takes the text (it is empty then)" */
    private static void decideTakesTheText() {
        emptyBehind("ExEy:0<1");
        emptyBehind("ExEy:0<0");
        emptyBehind("x".repeat(80));
        emptyBehind(" ".repeat(72) + "ExEy:0<1");
        for (String text : REFUSED) {
            emptyBehind(text);
        }
    }

    private static void emptyBehind(String text) {
        PlaneCells again = decided(text);
        due("3: decide() again after " + text, again.decide(), ILL);
        due("3: its place after " + text, again.place(), 0);
        PlaneCells next = decided(text);
        due("3: a TRUE one after " + text, Checks.decide(next, "AxAy:0=0"), 1);
        PlaneCells other = decided(text);
        due("3: a FALSE one after " + text, Checks.decide(other, "ExEy:0=1"), 0);
        PlaneCells full = decided(text);
        due("3: 80 after " + text, Checks.write(full, " ".repeat(80)), true);
        due("3: 81 after " + text, full.write(' '), false);
    }

    /** Promise 3: "ROOM: it has more than 8 characters (" */
    private static void decideOpenings() {
        for (int n = 0; n <= 12; n++) {
            dueVerdict("ExEy:" + "(".repeat(n) + "0<1" + ")".repeat(n), n <= 8 ? 1 : ROOM);
            dueVerdict("ExEy:" + "~(".repeat(n) + "0<1" + ")".repeat(n), n > 8 ? ROOM : n % 2 == 0 ? 1 : 0);
        }
        dueVerdict("ExEy:(0<1)" + "&(0<1)".repeat(7), 1);
        dueVerdict("ExEy:((0<1))" + "&(0<1)".repeat(7), ROOM);
        dueVerdict("ExEy:0<1" + ")".repeat(9), ILL);
    }

    private static void decideOpeningsBeforeIll() {
        dueVerdict("(".repeat(8), ILL);
        dueVerdict("(".repeat(9), ROOM);
        dueVerdict("(".repeat(80), ROOM);
        dueVerdict("?" + "( ".repeat(8), ILL);
        dueVerdict("?" + "( ".repeat(9), ROOM);
        dueVerdict("ExEy:0<1" + "(".repeat(8), ILL);
        dueVerdict("ExEy:0<1" + "(".repeat(9), ROOM);
        due("4: place with 8", decided("ExEy:0<1" + "(".repeat(8)).place(), 8);
        due("4: place with 9", decided("ExEy:0<1" + "(".repeat(9)).place(), -1);
    }

    /** Promise 3: "ROOM: it has more than 8 atoms" */
    private static void decideAtoms() {
        for (int n = 1; n <= 18; n++) {
            dueVerdict("ExEy:0<1" + "&0<1".repeat(n - 1), n <= 8 ? 1 : ROOM);
            dueVerdict("AxAy:0>1" + "|x>x".repeat(n - 1), n <= 8 ? 0 : ROOM);
        }
        due("5: eight are kept", decided("ExEy:0<1" + "&0<1".repeat(7)).polynomials(), 8);
    }

    /** Promise 3: "or a polynomial has a number c0, c1, c2 or c3 that isn't -5 .. 5" */
    private static void decideNumbers() {
        String[] letters = {"", "x", "y", "xy"};
        for (int k = 0; k < 4; k++) {
            for (int c = -9; c <= 9; c++) {
                boolean fits = c >= -5 && c <= 5;
                String left = "ExEy:" + c + letters[k] + "=0";
                String right = "ExEy:0=" + c + letters[k];
                due("3: fits, " + left, Checks.decide(new PlaneCells(), left) != ROOM, fits);
                due("3: fits, " + right, Checks.decide(new PlaneCells(), right) != ROOM, fits);
                due("6: number of " + left, decided(left).coefficient(0, k), fits ? c : NONE);
                due("6: number of " + right, decided(right).coefficient(0, k), fits ? -c : NONE);
            }
        }
    }

    private static void decideNumbersOfEachPolynomial() {
        for (int p = 0; p < 8; p++) {
            String before = "ExEy:" + "y=0|".repeat(p);
            String behind = "|0=x".repeat(7 - p);
            due("3: 5 in polynomial " + p, decided(before + "5xy=5" + behind).polynomials(), 8);
            dueVerdict(before + "6xy=5" + behind, ROOM);
            dueVerdict(before + "5xy=6" + behind, ROOM);
            dueVerdict(before + "6y=x" + behind, ROOM);
            dueVerdict(before + "y=6x" + behind, ROOM);
        }
    }

    /** The number of the polynomial counts, not those that are written. */
    private static void decideNumbersOnTheWay() {
        due("3: 9 - 4", decided("ExEy:9x-4x=0").coefficient(0, 1), 5);
        dueVerdict("ExEy:9x-3x=0", ROOM);
        due("3: 9 left, 9 right", decided("ExEy:9xy+9xy=9xy+9xy").coefficient(0, 3), 0);
        due("3: -9 left, -4 right", decided("ExEy:-9y=-4y").coefficient(0, 2), -5);
        dueVerdict("ExEy:-9y=-3y", ROOM);
        dueVerdict("ExEy:3x=-3x", ROOM);
        dueVerdict("ExEy:3x=-2x", 1);
        String nines = "9x+".repeat(23);
        dueVerdict("ExEy:" + nines + "x=0", ROOM);
        dueVerdict("ExEy:" + "9x+".repeat(11) + "9x=" + "9x+".repeat(11) + "9x", 1);
        dueVerdict("ExEy:" + "1+".repeat(4) + "1=5", 1);
        dueVerdict("ExEy:" + "1+".repeat(5) + "1=0", ROOM);
        dueVerdict("ExEy:" + "1+".repeat(35) + "1+1=1", ROOM);
    }

    /** Promise 3: ILL stands before the second ROOM. */
    private static void decideIllBeforeRoom() {
        dueVerdict(NINE_ATOMS + "|", ILL);
        dueVerdict(NINE_ATOMS + "|0<1", ROOM);
        dueVerdict("ExEy:0<1" + "|0<1".repeat(17) + "&", ILL);
        dueVerdict("ExEy:6x<1", ROOM);
        dueVerdict("ExEy:6x<1)", ILL);
        dueVerdict("ExEy:6x<", ILL);
        due("4: its place", decided("ExEy:6x<1)").place(), 9);
        due("4: its place with nine atoms", decided(NINE_ATOMS + "|").place(), NINE_ATOMS.length() + 1);
    }

    /** Promise 3: "Then there are no polynomials and no columns, also not those of before." */
    private static void decideForgets() {
        for (String text : REFUSED) {
            PlaneCells plane = decided(HYPERBOLA);
            due("3: columns before " + text, plane.columns(), 3);
            int verdict = Checks.decide(plane, text);
            due("3: refused, " + text, verdict == ILL || verdict == ROOM, true);
            nothingIsThere("3: after " + text, plane);
            Checks.decide(plane, "ExEy:x=2");
            due("3: columns then", plane.columns(), 3);
            due("3: cells(1) then", plane.cells(1), 1);
            due("3: polynomials then", plane.polynomials(), 1);
        }
        PlaneCells fewer = decided("ExEy:xy=2&y=x");
        Checks.decide(fewer, "ExEy:0<1");
        due("3: a sentence replaces the one before", fewer.columns(), 1);
        due("3: none of its columns is left", fewer.cells(1), 0);
        due("3: none of its numbers is left", fewer.compare(1, 0, 1), NONE);
        due("3: none of its polynomials is left", fewer.coefficient(1, 0), NONE);
    }

    // Promise 4: "Of the latest decide: the place at which it is ill-formed; -1 if it isn't (with ROOM, too),
    // or there was none."

    private static void placeOfIll() {
        due("4: the first place", decided("?").place(), 0);
        due("4: an empty text", decided("").place(), 0);
        due("4: the last place", decided("ExEy:" + "x+".repeat(37) + "?").place(), 79);
        due("4: behind the last place", decided("ExEy:" + "x+".repeat(37) + "x").place(), 80);
        due("4: behind a sentence", decided("ExEy:0<1)").place(), 8);
    }

    private static void placeWithoutIll() {
        due("4: there was none", new PlaneCells().place(), -1);
        PlaneCells written = new PlaneCells();
        Checks.write(written, "?");
        due("4: written, but not decided", written.place(), -1);
        due("4: TRUE", decided("ExEy:0<1").place(), -1);
        due("4: FALSE", decided("ExEy:1<0").place(), -1);
        due("4: ROOM for (", decided(NINE_OPENINGS).place(), -1);
        due("4: ROOM for atoms", decided(NINE_ATOMS).place(), -1);
        due("4: ROOM for numbers", decided(NUMBER_SIX).place(), -1);
    }

    private static void placeOfTheLatest() {
        String[] texts = {"ExEy:0<1", "ExEy:1<0", NINE_OPENINGS, NINE_ATOMS, NUMBER_SIX};
        for (String text : texts) {
            PlaneCells plane = decided("ExEy:x");
            due("4: before " + text, plane.place(), 6);
            Checks.write(plane, text);
            due("4: not yet decided, " + text, plane.place(), 6);
            plane.decide();
            due("4: after " + text, plane.place(), -1);
            Checks.decide(plane, "Ex?");
            due("4: ill again after " + text, plane.place(), 2);
        }
    }

    /** Promise 5: "How many polynomials the sentence has that was decided last; 0 if it was ILL or ROOM,
     * or there was none." */
    private static void polynomialsCounted() {
        due("5: there was none", new PlaneCells().polynomials(), 0);
        PlaneCells plane = new PlaneCells();
        for (int n = 1; n <= 8; n++) {
            Checks.decide(plane, "ExEy:0=x" + "|0=x".repeat(n - 1));
            due("5: " + n + " atoms", plane.polynomials(), n);
        }
        for (String text : REFUSED) {
            PlaneCells refused = decided(HYPERBOLA);
            due("5: before " + text, refused.polynomials(), 2);
            Checks.decide(refused, text);
            due("5: after " + text, refused.polynomials(), 0);
        }
    }

    // Promise 6: "c0 .. c3 (k) of polynomial p; NONE if there is no such polynomial or k."

    private static void coefficientPolynomials() {
        String text = "ExEy:1=0|2=0|3=0|4=0|5=0|0=1|0=2|0=3";
        int[] want = {1, 2, 3, 4, 5, -1, -2, -3};
        for (int n = 1; n <= 8; n++) {
            PlaneCells plane = decided(text.substring(0, 4 + 4 * n));
            for (int p = -3; p <= 10; p++) {
                boolean isThere = p >= 0 && p < n;
                due("6: coefficient(" + p + ", 0) of " + n, plane.coefficient(p, 0), isThere ? want[p] : NONE);
            }
            for (int p : OUTSIDE) {
                due("6: coefficient(" + p + ", 0) of " + n, plane.coefficient(p, 0), NONE);
            }
        }
    }

    private static void coefficientNumbers() {
        PlaneCells plane = decided("ExEy:0<1|5xy-5x+4y=4");
        int[] want = {-4, -5, 4, 5};
        for (int k = -9; k <= 9; k++) {
            boolean isThere = k >= 0 && k <= 3;
            due("6: coefficient(1, " + k + ")", plane.coefficient(1, k), isThere ? want[k] : NONE);
        }
        for (int k : OUTSIDE) {
            due("6: coefficient(1, " + k + ")", plane.coefficient(1, k), NONE);
            due("6: coefficient(" + k + ", " + k + ")", plane.coefficient(k, k), NONE);
        }
        due("6: coefficient(0, 4)", plane.coefficient(0, 4), NONE);
        due("6: coefficient(2, -4)", plane.coefficient(2, -4), NONE);
    }

    /** Promise 7: "How many columns there are (1 without critical numbers); 0 as with polynomials()." */
    private static void columnsCounted() {
        due("7: there was none", new PlaneCells().columns(), 0);
        due("7: without critical numbers", decided("ExEy:y<1").columns(), 1);
        PlaneCells plane = new PlaneCells();
        String text = "ExEy:x=0|x=1|x=2|x=3|x=4|x=5|0=x+1|0=x+2";
        int[] ends = {8, 12, 16, 20, 24, 28, 34, 40};
        for (int n = 1; n <= 8; n++) {
            Checks.decide(plane, text.substring(0, ends[n - 1]));
            due("7: with " + n + " critical numbers", plane.columns(), 2 * n + 1);
        }
        for (String refusedText : REFUSED) {
            PlaneCells refused = decided(HYPERBOLA);
            Checks.decide(refused, refusedText);
            due("7: after " + refusedText, refused.columns(), 0);
        }
    }

    /** Promise 8: "How many cells column i has; 0 if there is none." */
    private static void cellsOfColumns() {
        PlaneCells plane = decided(HYPERBOLA);
        int[] want = {5, 3, 5};
        for (int i = -5; i <= 8; i++) {
            due("8: cells(" + i + ")", plane.cells(i), i >= 0 && i < 3 ? want[i] : 0);
        }
        PlaneCells one = decided("ExEy:0<1");
        due("8: the only column", one.cells(0), 1);
        due("8: above it", one.cells(1), 0);
        for (int i : OUTSIDE) {
            due("8: cells(" + i + ")", plane.cells(i), 0);
            due("8: cells(" + i + ") of one", one.cells(i), 0);
        }
        due("8: there was none", new PlaneCells().cells(0), 0);
    }

    // Promise 9: "The sign (-1, 0, 1) of polynomial p in cell j of column i; NONE if there is none such."

    private static void signColumns() {
        PlaneCells plane = decided(HYPERBOLA);
        int[] want = {1, -1, -1};
        for (int i = -5; i <= 8; i++) {
            due("9: sign(" + i + ", 0, 0)", plane.sign(i, 0, 0), i >= 0 && i < 3 ? want[i] : NONE);
        }
        for (int i : OUTSIDE) {
            due("9: sign(" + i + ", 0, 0)", plane.sign(i, 0, 0), NONE);
        }
    }

    /** Column 1 has two cells less than its neighbours; it is asked behind them. */
    private static void signCells() {
        PlaneCells plane = decided(HYPERBOLA);
        int[][] want = {{-1, -1, -1, 0, 1}, {-1, 0, 1}, {-1, 0, 1, 1, 1}};
        for (int j = -3; j <= 8; j++) {
            for (int i = 0; i < 3; i++) {
                int due = j >= 0 && j < want[i].length ? want[i][j] : NONE;
                due("9: sign(" + i + ", " + j + ", 1)", plane.sign(i, j, 1), due);
            }
        }
        for (int j : OUTSIDE) {
            due("9: sign(0, " + j + ", 0)", plane.sign(0, j, 0), NONE);
        }
        PlaneCells one = decided("ExEy:0<1");
        due("9: the only cell", one.sign(0, 0, 0), -1);
        due("9: above it", one.sign(0, 1, 0), NONE);
        due("9: below it", one.sign(0, -1, 0), NONE);
    }

    private static void signPolynomials() {
        PlaneCells plane = decided(HYPERBOLA);
        for (int p = -3; p <= 9; p++) {
            int due = p == 0 ? 1 : p == 1 ? -1 : NONE;
            due("9: sign(0, 0, " + p + ")", plane.sign(0, 0, p), due);
        }
        PlaneCells eight = decided("ExEy:0<1" + "|0<1".repeat(7));
        due("9: the last polynomial", eight.sign(0, 0, 7), -1);
        due("9: behind it", eight.sign(0, 0, 8), NONE);
        for (int p : OUTSIDE) {
            due("9: sign(0, 0, " + p + ")", plane.sign(0, 0, p), NONE);
            due("9: sign(0, 0, " + p + ") of eight", eight.sign(0, 0, p), NONE);
            due("9: sign of " + p + " thrice", plane.sign(p, p, p), NONE);
        }
    }

    /** Promise 10: "Whether the formula is true in cell j of column i, 1 or 0; NONE if there is none." */
    private static void truthColumnsAndCells() {
        PlaneCells plane = decided(HYPERBOLA);
        int[][] want = {{0, 0, 1, 1, 1}, {1, 1, 1}, {1, 1, 1, 1, 1}};
        for (int j = -2; j <= 6; j++) {
            for (int i = -2; i <= 5; i++) {
                boolean isThere = i >= 0 && i < 3 && j >= 0 && j < want[i].length;
                due("10: truth(" + i + ", " + j + ")", plane.truth(i, j), isThere ? want[i][j] : NONE);
            }
        }
        for (int outside : OUTSIDE) {
            due("10: truth(" + outside + ", 0)", plane.truth(outside, 0), NONE);
            due("10: truth(0, " + outside + ")", plane.truth(0, outside), NONE);
        }
        due("10: the only cell, true", decided("ExEy:0<1").truth(0, 0), 1);
        due("10: the only cell, false", decided("ExEy:1<0").truth(0, 0), 0);
        due("10: above the only cell", decided("ExEy:0<1").truth(0, 1), NONE);
    }

    /** Promise 11: "Whether column i holds, 1 or 0; NONE if there is none." */
    private static void holdsColumns() {
        PlaneCells plane = decided(HYPERBOLA);
        int[] want = {0, 1, 1};
        for (int i = -5; i <= 8; i++) {
            due("11: holds(" + i + ")", plane.holds(i), i >= 0 && i < 3 ? want[i] : NONE);
        }
        for (int i : OUTSIDE) {
            due("11: holds(" + i + ")", plane.holds(i), NONE);
        }
        due("11: the only column", decided("AxAy:0<1").holds(0), 1);
        due("11: the only column, false", decided("AxAy:1<0").holds(0), 0);
        due("11: above the only column", decided("AxAy:0<1").holds(1), NONE);
    }

    // Promise 12: "The lowest column that makes the sentence true (E for x) or false (A for x);
    // -1 if there is none (or nothing was decided)."

    /** Just column i, or all but column i, or all from column i on. */
    private static void witnessLowest() {
        String[] just = {"x<0", "x=0", "x>0&x<1", "x=1", "x>1"};
        String[] from = {"0=0", "~x<0", "x>0", "~x<1", "x>1"};
        for (int i = 0; i < 5; i++) {
            String both = "&(x=0|~x=0)&(x=1|~x=1)";
            due("12: E, just " + i, decided("ExEy:" + just[i] + both).witness(), i);
            due("12: A, all but " + i, decided("AxEy:~(" + just[i] + ")" + both).witness(), i);
            due("12: E, from " + i, decided("ExAy:" + from[i] + both).witness(), i);
            due("12: A, all below " + i, decided("AxAy:~(" + from[i] + ")" + both).witness(), i);
        }
        due("12: E, the only column", decided("ExEy:0<1").witness(), 0);
        due("12: A, the only column", decided("AxEy:1<0").witness(), 0);
    }

    private static void witnessNone() {
        due("12: nothing was decided", new PlaneCells().witness(), -1);
        due("12: E, FALSE", decided("ExEy:x<0&x>0").witness(), -1);
        due("12: A, TRUE", decided("AxEy:~x<0|~x>0").witness(), -1);
        due("12: E, FALSE, one column", decided("ExEy:1<0").witness(), -1);
        due("12: A, TRUE, one column", decided("AxEy:0<1").witness(), -1);
        for (String text : REFUSED) {
            PlaneCells plane = decided("ExEy:x=0");
            due("12: before " + text, plane.witness(), 1);
            Checks.decide(plane, text);
            due("12: after " + text, plane.witness(), -1);
        }
    }

    // Promise 13: "Of the critical number that column i (an odd one) is: -1 if it is less than n / d, 0 if it is that,
    // 1 if it is greater; NONE if there is no such column, n isn't -1000 .. 1000 or d isn't 1 .. 100."

    private static void dueCompare(PlaneCells plane, int i, int n, int d, int want) {
        due("13: compare(" + i + ", " + n + ", " + d + ")", plane.compare(i, n, d), want);
    }

    private static void compareSides() {
        PlaneCells half = decided("ExEy:2x=-1");
        for (int d = 2; d <= 100; d += 2) {
            dueCompare(half, 1, -d / 2 - 1, d, 1);
            dueCompare(half, 1, -d / 2, d, 0);
            dueCompare(half, 1, -d / 2 + 1, d, -1);
        }
        for (int d = 1; d <= 99; d += 2) {
            dueCompare(half, 1, -(d + 1) / 2, d, 1);
            dueCompare(half, 1, -(d - 1) / 2, d, -1);
        }
    }

    /**
     * 0.17000133, a zero of 9 x x - 78 x + 13, is the nearest to an n / d that numbers -5 .. 5 can
     * make without being it; 80 and -80 are the farthest from 0.
     */
    private static void compareNearest() {
        PlaneCells near = decided("ExEy:4xy+3y+5x=5|5y=5xy+4x+4");
        int[] orders = new int[3];
        for (int i = 1; i < near.columns(); i += 2) {
            orders[near.compare(i, 17, 100) + 1]++;
        }
        due("13: no number is 17 / 100", orders[1], 0);
        int above = 2 * orders[0] + 1;
        dueCompare(near, above, 17, 100, 1);
        dueCompare(near, above, 16, 94, -1);
        PlaneCells far = decided("ExEy:4xy=5y+5x+5|4x=3xy+5y+5");
        int last = far.columns() - 2;
        dueCompare(far, last, 80, 1, 0);
        dueCompare(far, last, 79, 1, 1);
        dueCompare(far, last, 81, 1, -1);
        dueCompare(far, last, 960, 12, 0);
        dueCompare(far, last, 959, 12, 1);
        dueCompare(far, last, 1000, 1, -1);
        PlaneCells below = decided("ExEy:3xy=5y+4x+5|5x=4xy+5y+5");
        dueCompare(below, 1, -80, 1, 0);
        dueCompare(below, 1, -79, 1, -1);
        dueCompare(below, 1, -81, 1, 1);
        dueCompare(below, 1, -1000, 1, 1);
    }

    private static void compareColumns() {
        PlaneCells plane = decided("ExEy:x=-1|x=0|x=1");
        for (int i = -8; i <= 12; i++) {
            boolean isNumber = i == 1 || i == 3 || i == 5;
            dueCompare(plane, i, 0, 1, isNumber ? (i - 3) / 2 : NONE);
        }
        for (int i : OUTSIDE) {
            dueCompare(plane, i, 0, 1, NONE);
        }
        dueCompare(decided("ExEy:0<1"), 0, 0, 1, NONE);
        dueCompare(decided("ExEy:0<1"), 1, 0, 1, NONE);
        dueCompare(new PlaneCells(), 1, 0, 1, NONE);
    }

    /** 5 and 10, -10 and -5 are critical; 10 is 1000 / 100. */
    private static void compareTops() {
        PlaneCells right = decided("ExEy:y=x-5|y=5");
        dueCompare(right, 3, 999, 100, 1);
        dueCompare(right, 3, 1000, 100, 0);
        dueCompare(right, 3, 1001, 100, NONE);
        dueCompare(right, 3, 1000, 99, -1);
        dueCompare(right, 3, 1000, 1, -1);
        PlaneCells left = decided("ExEy:y=x+5|y=-5");
        dueCompare(left, 1, -999, 100, -1);
        dueCompare(left, 1, -1000, 100, 0);
        dueCompare(left, 1, -1001, 100, NONE);
        dueCompare(left, 1, -1000, 99, 1);
        dueCompare(left, 1, -1000, 1, 1);
        int[] outside = {LOW, LOW + 1000, -65536, -1002, 1002, 65536, 1 << 30, HIGH};
        for (int n : outside) {
            dueCompare(left, 1, n, 1, NONE);
            dueCompare(right, 1, n, 100, NONE);
        }
    }

    private static void compareBottoms() {
        PlaneCells plane = decided("ExEy:x=0|4x=1");
        for (int d = -3; d <= 104; d++) {
            dueCompare(plane, 1, 0, d, d >= 1 && d <= 100 ? 0 : NONE);
        }
        dueCompare(plane, 3, 25, 99, -1);
        dueCompare(plane, 3, 25, 100, 0);
        dueCompare(plane, 3, 25, 101, NONE);
        dueCompare(plane, 3, 1, 1, -1);
        dueCompare(plane, 3, 1, 0, NONE);
        dueCompare(plane, 3, 1, -1, NONE);
        int[] outside = {LOW, LOW + 1, -65536, -100, 256, 257, 65537, 1 << 30, HIGH};
        for (int d : outside) {
            dueCompare(plane, 1, 0, d, NONE);
        }
    }

    /** Refused questions and others leave text, place and all answers as they are. */
    private static void questionsChangeNothing() {
        PlaneCells plane = decided(HYPERBOLA);
        Checks.write(plane, "ExEy:x=");
        for (int outside : new int[] {LOW, -1, 0, 1, 2, 3, 9, HIGH}) {
            plane.coefficient(outside, outside);
            plane.cells(outside);
            plane.sign(outside, outside, outside);
            plane.truth(outside, outside);
            plane.holds(outside);
            plane.compare(outside, outside, outside);
            plane.witness();
            due("9: sign(0, 4, 1)", plane.sign(0, 4, 1), 1);
            due("8: cells(1)", plane.cells(1), 3);
            due("13: compare(1, 0, 1)", plane.compare(1, 0, 1), 0);
            due("7: columns()", plane.columns(), 3);
            due("4: place()", plane.place(), -1);
        }
        due("3: the text is left", Checks.decide(plane, "4"), 1);
        due("13: its number", plane.compare(1, 4, 1), 0);
    }

    /** No call throws, whatever was called before: a throw would end the test. */
    private static void anyCallsEnd() {
        int[] numbers = {LOW, -1001, -1000, -1, 0, 1, 2, 3, 7, 8, 16, 17, 100, 101, 144, 145, 1000, 1001, HIGH};
        String begun = "ExAy:xy<1|(y>0&~5x=2y)";
        for (int run = 0; run < 200; run++) {
            PlaneCells plane = new PlaneCells();
            for (int call = 0; call < 512; call++) {
                int mixed = (run * 512 + call) * 0x9E3779B1 >>> 8;
                int a = numbers[mixed % 19];
                int b = numbers[mixed / 19 % 19];
                int c = numbers[mixed / 361 % 19];
                int step = call % 64;
                int which = step < run % 32 ? 0 : step == run % 32 || step == 63 ? 1 : mixed % 12;
                anyCall(plane, which, begun.charAt(step % begun.length()), a, b, c);
            }
        }
    }

    private static void anyCall(PlaneCells plane, int which, char written, int a, int b, int c) {
        switch (which) {
            case 0 -> plane.write(written);
            case 1 -> due("3: -2 .. 1", Math.abs(2 * plane.decide() + 1) <= 3, true);
            case 2 -> due("4: -1 .. 80", Math.abs(2 * plane.place() - 79) <= 81, true);
            case 3 -> due("5: 0 .. 8", Math.abs(plane.polynomials() - 4) <= 4, true);
            case 4 -> due("6: -5 .. 5 or NONE", isUpTo(5, plane.coefficient(a, b)), true);
            case 5 -> due("7: 0 .. 145", Math.abs(2 * plane.columns() - 145) <= 145, true);
            case 6 -> due("8: 0 .. 17", Math.abs(2 * plane.cells(a) - 17) <= 17, true);
            case 7 -> due("9: -1 .. 1 or NONE", isUpTo(1, plane.sign(a, b, c)), true);
            case 8 -> due("10: 0, 1 or NONE", isUpTo(1, plane.truth(a, b)), true);
            case 9 -> due("11: 0, 1 or NONE", isUpTo(1, plane.holds(a)), true);
            case 10 -> due("12: -1 .. 144", Math.abs(2 * plane.witness() - 143) <= 145, true);
            default -> due("13: -1 .. 1 or NONE", isUpTo(1, plane.compare(a, b, c)), true);
        }
    }

    private static boolean isUpTo(int largest, int answer) {
        return answer == NONE || Math.abs(answer) <= largest;
    }
}
