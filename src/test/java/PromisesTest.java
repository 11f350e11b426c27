/** Each promise with answers that were found by hand: ordinary inputs, edges, wrong inputs. */
public final class PromisesTest {
    private static final int NONE = PlaneCells.NONE;
    private static final int LOW = Integer.MIN_VALUE;
    private static final int HIGH = Integer.MAX_VALUE;
    private static final Checks CHECKS = new Checks("PromisesTest");

    public static void main(String[] args) {
        nothingIsThere("promise 1, new", new PlaneCells());
        emptyText();
        codesThatAreTaken();
        roomOfTheText();
        verdicts();
        operators();
        textIsTaken();
        roomForOpenings();
        roomForAtoms();
        roomForNumbers();
        refusalsForget();
        illPlaces();
        placeOfTheLatest();
        polynomialsAndCoefficients();
        columnCounts();
        cellCounts();
        signs();
        truths();
        columnsThatHold();
        witnesses();
        comparisons();
        comparisonsAtTheEdges();
        CHECKS.end();
    }

    private static void due(String what, int got, int want) {
        CHECKS.due(what, got, want);
    }

    private static void dueVerdict(String text, int want) {
        due("decide of " + text, Checks.decide(new PlaneCells(), text), want);
    }

    private static void nothingIsThere(String when, PlaneCells plane) {
        due(when + ": polynomials()", plane.polynomials(), 0);
        due(when + ": columns()", plane.columns(), 0);
        due(when + ": coefficient(0, 0)", plane.coefficient(0, 0), NONE);
        due(when + ": cells(0)", plane.cells(0), 0);
        due(when + ": sign(0, 0, 0)", plane.sign(0, 0, 0), NONE);
        due(when + ": truth(0, 0)", plane.truth(0, 0), NONE);
        due(when + ": holds(0)", plane.holds(0), NONE);
        due(when + ": witness()", plane.witness(), -1);
        due(when + ": compare(1, 0, 1)", plane.compare(1, 0, 1), NONE);
    }

    private static void emptyText() {
        PlaneCells plane = new PlaneCells();
        due("promise 1: place()", plane.place(), -1);
        due("promise 1: decide() of an empty text", plane.decide(), PlaneCells.ILL);
        due("promise 1: place() then", plane.place(), 0);
    }

    private static void codesThatAreTaken() {
        PlaneCells plane = new PlaneCells();
        int[] refused = {0, 9, 10, 31, 127, 128, 160, 255, 256, 288, 65535};
        for (int code : refused) {
            CHECKS.due("promise 2: write of code " + code, plane.write((char) code), false);
        }
        due("promise 2: the refused are not in the text", Checks.decide(plane, "ExEy:0<1"), 1);
        for (int code = 32; code <= 126; code++) {
            CHECKS.due("promise 2: write of code " + code, new PlaneCells().write((char) code), true);
        }
    }

    private static void roomOfTheText() {
        PlaneCells plane = new PlaneCells();
        CHECKS.due("promise 2: 72 blanks", Checks.write(plane, " ".repeat(72)), true);
        CHECKS.due("promise 2: up to 80", Checks.write(plane, "ExEy:0<1"), true);
        CHECKS.due("promise 2: the 81st, a blank", plane.write(' '), false);
        CHECKS.due("promise 2: the 81st, a )", plane.write(')'), false);
        due("promise 2: decide() of 80", plane.decide(), 1);
        CHECKS.due("promise 2: after decide there is room", Checks.write(plane, "x".repeat(80)), true);
        CHECKS.due("promise 2: again up to 80", plane.write('x'), false);
        String longest = "AxAy:" + "0+".repeat(36) + "0=0";
        due("promise 2: length of the longest", longest.length(), 80);
        dueVerdict(longest, 1);
    }

    private static void verdicts() {
        String[] heads = {"ExEy:", "ExAy:", "AxEy:", "AxAy:"};
        Object[][] rows = {
            {"x<y", 1, 0, 1, 0}, {"x+y=y+x", 1, 1, 1, 1}, {"0=1", 0, 0, 0, 0}, {"xy=0", 1, 1, 1, 0},
            {"xy=1", 1, 0, 0, 0}, {"x=0|xy=1", 1, 1, 1, 0}, {"x<1", 1, 1, 0, 0}, {"y<1", 1, 0, 1, 0},
            {"xy-x-y+1<0", 1, 0, 0, 0}, {"x<y|y<x|x=y", 1, 1, 1, 1}, {"x<y&y<x", 0, 0, 0, 0},
            {"~x=y", 1, 0, 1, 0}, {"2x-3=0&2y-3=0", 1, 0, 0, 0}, {"xy>-1|yx<0", 1, 1, 1, 1},
        };
        for (Object[] row : rows) {
            for (int h = 0; h < heads.length; h++) {
                dueVerdict(heads[h] + row[0], (Integer) row[h + 1]);
            }
        }
        dueVerdict("ExEy:xy=2&x=y", 1);
        dueVerdict("ExEy:xy=-2&x=y", 0);
        dueVerdict("ExEy:xy=2&x=y&2x=3", 0);
        dueVerdict(" E x A y : x y = 0 ", 1);
        dueVerdict("AxAy:-2x-3y<-y-y-x-x-y+1", 1);
    }

    /** T is 0=0 and F is 0=1. */
    private static void operators() {
        Object[][] rows = {
            {"T", 1}, {"F", 0}, {"~T", 0}, {"~F", 1}, {"~~T", 1}, {"~~~T", 0},
            {"T&T", 1}, {"T&F", 0}, {"F&T", 0}, {"F&F", 0}, {"T|T", 1}, {"T|F", 1}, {"F|T", 1}, {"F|F", 0},
            {"T|T&F", 1}, {"F&T|T", 1}, {"(T|T)&F", 0}, {"F&(T|T)", 0}, {"~F|T", 1}, {"~(F|T)", 0},
            {"~F&F", 0}, {"~(F&F)", 1}, {"T&~F", 1}, {"F|~T&T", 0}, {"F|~(T&F)", 1}, {"~(~(~(F)))", 1},
            {"((((((((T))))))))", 1}, {"~((F|T)&(F|~T))&T", 1}, {"T&T&T&F", 0}, {"F|F|F|T", 1},
            {"F|T&(F|T&(F|T&(F|T)))", 1}, {"F|T&(F|T&(F|T&(F|F)))", 0}, {"(F)|(T)", 1}, {"~(T)|~(T)", 0},
        };
        for (Object[] row : rows) {
            String formula = ((String) row[0]).replace("T", "0=0").replace("F", "0=1");
            dueVerdict("AxAy:" + formula, (Integer) row[1]);
        }
        dueVerdict("ExEy:" + "~".repeat(72) + "0=0", 1);
        dueVerdict("ExEy:" + "~".repeat(71) + "0=0", 0);
        dueVerdict("ExEy:0>0|0<0", 0);
        dueVerdict("ExEy:0<1&1>0&1=1", 1);
        dueVerdict("ExEy:1<0|0>1|0=1", 0);
        dueVerdict("ExEy:" + "~(".repeat(8) + "0=0" + ")".repeat(8), 1);
        dueVerdict("ExEy:" + "~(".repeat(7) + "0=0" + ")".repeat(7), 0);
    }

    private static void textIsTaken() {
        PlaneCells plane = Checks.decided("ExEy:x<1");
        due("promise 3: decide() again", plane.decide(), PlaneCells.ILL);
        due("promise 3: its place", plane.place(), 0);
        due("promise 3: after ILL", Checks.decide(plane, "AxAy:x<1"), 0);
        due("promise 3: ROOM", Checks.decide(plane, "AxAy:9x<1"), PlaneCells.ROOM);
        due("promise 3: after ROOM", Checks.decide(plane, "AxAy:0<1"), 1);
        Checks.write(plane, "ExEy:");
        due("promise 3: writing leaves what was decided", plane.columns(), 1);
        due("promise 3: in two parts", Checks.decide(plane, "x<1"), 1);
    }

    private static void roomForOpenings() {
        dueVerdict("ExEy:" + "(".repeat(8) + "0<1" + ")".repeat(8), 1);
        dueVerdict("ExEy:" + "(".repeat(9) + "0<1" + ")".repeat(9), PlaneCells.ROOM);
        dueVerdict("(".repeat(8), PlaneCells.ILL);
        dueVerdict("(".repeat(9), PlaneCells.ROOM);
        dueVerdict("ExEy:(0<1)" + "|(0<1)".repeat(7), 1);
        dueVerdict("ExEy:(0<1)" + "|(0<1)".repeat(8), PlaneCells.ROOM);
        dueVerdict("?".repeat(20) + "( ".repeat(9), PlaneCells.ROOM);
        dueVerdict(")".repeat(20), PlaneCells.ILL);
        due("promise 4: place with ROOM", Checks.decided("?(((((((((").place(), -1);
    }

    private static void roomForAtoms() {
        dueVerdict("ExEy:x=1" + "&x=1".repeat(7), 1);
        dueVerdict("ExEy:x=1" + "&x=1".repeat(8), PlaneCells.ROOM);
        dueVerdict("ExEy:x=1" + "&x=1".repeat(17), PlaneCells.ROOM);
        dueVerdict("ExEy:x=1" + "&x=1".repeat(17) + "&", PlaneCells.ILL);
        due("promise 4: ILL goes before too many atoms", Checks.decided("ExEy:1<2" + "|1<2".repeat(9) + ")").place(), 44);
    }

    private static void roomForNumbers() {
        String[] letters = {"", "x", "y", "xy", "yx"};
        for (String l : letters) {
            int fits = Checks.decide(new PlaneCells(), "AxAy:5" + l + "=5" + l);
            due("promise 3: 5 and 5 of " + l, fits, 1);
            due("promise 3: 5 of " + l, Checks.decided("ExEy:5" + l + "=0").polynomials(), 1);
            due("promise 3: -5 of " + l, Checks.decided("ExEy:-5" + l + "=0").polynomials(), 1);
            due("promise 3: -5 right of " + l, Checks.decided("ExEy:0=5" + l).polynomials(), 1);
            dueVerdict("ExEy:6" + l + "=0", PlaneCells.ROOM);
            dueVerdict("ExEy:-6" + l + "=0", PlaneCells.ROOM);
            dueVerdict("ExEy:5" + l + "=-1" + l, PlaneCells.ROOM);
            dueVerdict("ExEy:0=1" + l + "+5" + l, PlaneCells.ROOM);
            dueVerdict("ExEy:0=0|6" + l + "=0", PlaneCells.ROOM);
            dueVerdict("ExEy:6" + l + "=0|", PlaneCells.ILL);
            due("promise 3: 9 less 4 of " + l, Checks.decided("ExEy:9" + l + "-4" + l + "=0").polynomials(), 1);
        }
        dueVerdict("AxAy:" + "9x+".repeat(10) + "x=" + "9x+".repeat(10) + "x", 1);
        due("promise 4: ROOM has no place", Checks.decided("ExEy:9<1").place(), -1);
    }

    private static void refusalsForget() {
        String[] refused = {"", "ExEy:x", "(((((((((", "ExEy:x<9", "ExEy:0<1" + "|0<1".repeat(8)};
        for (String text : refused) {
            PlaneCells plane = Checks.decided("ExEy:xy<1&x<y");
            due("promise 3: columns before", plane.columns(), 7);
            Checks.decide(plane, text);
            nothingIsThere("promise 3, after " + text, plane);
        }
    }

    private static void illPlaces() {
        Object[][] rows = {
            {"", 0}, {"   ", 0}, {"x", 0}, {"e", 0}, {"~", 0}, {"E", 1}, {"Ey", 1}, {"EX", 1}, {"Ex", 2}, {"Exx", 2},
            {"Exy", 2}, {"Ex:", 2}, {"ExE", 3}, {"ExEx:0<1", 3}, {"ExAy", 4}, {"ExAyx<1", 4}, {"ExAy:", 5},
            {"AxAy:<", 5}, {"AxAy:+x<1", 5}, {"AxAy:)", 5}, {"AxAy:&", 5}, {"AxAy:ExEy:0<1", 5}, {"AxAy:z<1", 5},
            {"AxAy:x", 6}, {"AxAy:-", 6}, {"AxAy:~", 6}, {"AxAy:(", 6}, {"AxAy:xx<1", 6}, {"AxAy:yy<1", 6},
            {"AxAy:x2<1", 6}, {"AxAy:12<1", 6}, {"AxAy:--x<1", 6}, {"AxAy:-(x<1)", 6}, {"AxAy:()0<1", 6},
            {"AxAy:x(<1", 6}, {"AxAy:x&y<1", 6}, {"AxAy:x*y<1", 6}, {"AxAy:xyx<1", 7}, {"AxAy:yxx<1", 7},
            {"AxAy:yxy<1", 7}, {"AxAy:2xx<1", 7}, {"AxAy:xy2<1", 7}, {"AxAy:x+", 7}, {"AxAy:x+-1<1", 7},
            {"AxAy:x<=1", 7}, {"AxAy:x<+1", 7}, {"AxAy:(x)<1", 7}, {"AxAy:x<", 7}, {"AxAy:x<(1)", 7},
            {"AxAy:x<~1", 7}, {"AxAy:x-<1", 7}, {"AxAy:3xyx<1", 8}, {"AxAy:x<-", 8}, {"AxAy:x<1)", 8},
            {"AxAy:x<1<2", 8}, {"AxAy:x<1~", 8}, {"AxAy:x<1(", 8}, {"AxAy:x<1;", 8}, {"AxAy:x<12", 8},
            {"AxAy:x<1&", 9}, {"AxAy:x<1|", 9}, {"AxAy:x<1&&0<1", 9}, {"AxAy:x<1|&0<1", 9}, {"AxAy:(x<1", 9},
            {"AxAy:(x<1&0<1", 13}, {"AxAy:(x<1))", 10}, {"AxAy:(x<1)x", 10}, {"AxAy:(x<1)(0<1)", 10},
            {"AxAy:~(x<1)~", 11}, {"AxAy:(x<1)<2", 10}, {"AxAy:((x<1)", 11}, {"AxAy:x<1\"", 8}, {"AxAy:x<1x", -1},
            {"A x A y : x < 1 2", 8}, {"  A  x x", 2}, {"A x A y : x < ", 7}, {"A x A y : 1 x < y x", -1},
        };
        for (Object[] row : rows) {
            PlaneCells plane = new PlaneCells();
            int want = (Integer) row[1];
            int verdict = Checks.decide(plane, (String) row[0]);
            CHECKS.due("promise 3: " + row[0] + " is ill-formed", verdict == PlaneCells.ILL, want >= 0);
            due("promise 4: place() of " + row[0], plane.place(), want);
        }
        due("promise 4: ends early at 80", Checks.decided("ExEy:" + "x+".repeat(37) + "x").place(), 80);
    }

    private static void placeOfTheLatest() {
        PlaneCells plane = Checks.decided("ExEy:x<");
        due("promise 4: place()", plane.place(), 7);
        Checks.write(plane, "ExEy:x");
        due("promise 4: writing leaves the place", plane.place(), 7);
        due("promise 4: columns() leaves the place", plane.columns() + plane.place(), 7);
        Checks.decide(plane, "<1");
        due("promise 4: place() of a sentence", plane.place(), -1);
        Checks.decide(plane, "?");
        due("promise 4: place() of ?", plane.place(), 0);
        Checks.decide(plane, "ExEy:x<9");
        due("promise 4: place() with ROOM", plane.place(), -1);
    }

    private static void polynomialsAndCoefficients() {
        PlaneCells plane = Checks.decided("ExEy:2xy-3x+y-4<yx+x|~(0=0&-5=y-y+4x)");
        due("promise 5: polynomials()", plane.polynomials(), 3);
        int[][] want = {{-4, -4, 1, 1}, {0, 0, 0, 0}, {-5, -4, 0, 0}};
        for (int p = 0; p < 3; p++) {
            for (int k = 0; k < 4; k++) {
                due("promise 6: coefficient(" + p + ", " + k + ")", plane.coefficient(p, k), want[p][k]);
            }
        }
        int[] wrong = {LOW, -4, -1, 4, 5, 8, 31, 32, HIGH};
        for (int w : wrong) {
            due("promise 6: coefficient(" + w + ", 0)", plane.coefficient(w, 0), NONE);
            due("promise 6: coefficient(1, " + w + ")", plane.coefficient(1, w), NONE);
        }
        due("promise 6: coefficient(3, 0)", plane.coefficient(3, 0), NONE);
        Checks.decide(plane, "ExEy:x<1");
        due("promise 5: of the latest", plane.polynomials(), 1);
        due("promise 6: none of before", plane.coefficient(1, 0), NONE);
        due("promise 5: alike polynomials", Checks.decided("AxAy:x<1&x<1&(x<1|1>x)").polynomials(), 4);
        due("promise 5: eight", Checks.decided("AxAy:x<1" + "&x<1".repeat(7)).polynomials(), 8);
        PlaneCells zeros = Checks.decided("ExEy:0xy+0x-0y-0+3<1");
        int[] left = {2, 0, 0, 0};
        for (int k = 0; k < 4; k++) {
            due("promise 6: zeros, " + k, zeros.coefficient(0, k), left[k]);
        }
    }

    private static void columnCounts() {
        Object[][] rows = {
            {"0<1", 1}, {"0<0", 1}, {"y<1", 1}, {"y<1|y<2", 1}, {"x<1", 3}, {"x<1|x<1", 3}, {"x<1|2x<2", 3},
            {"x<1|x<2", 5}, {"y<x", 3}, {"xy<0", 3}, {"xy<1", 3}, {"xy<x", 3}, {"xy+y<x", 5}, {"xy=2&y=x", 7},
            {"xy=-2&y=x", 3}, {"xy=1&y=x", 7}, {"xy-x-y+1=0", 3}, {"x<0|2x=0|xy<0", 3}, {"2y=3x&3x=4", 5},
            {"xy=4&y=x&x<2", 7}, {"xy=4&y=x&2x<3", 9}, {"xy=2&y=x&2xy=4", 7}, {"xy=3&y=x&xy=2", 11},
            {"y=x&y=2-x", 7}, {"y=x&y=x+1", 5},
        };
        for (Object[] row : rows) {
            due("promise 7: columns() of " + row[0], Checks.decided("ExEy:" + row[0]).columns(), (Integer) row[1]);
        }
    }

    private static void cellCounts() {
        PlaneCells plane = Checks.decided("ExAy:xy<1|y>0");
        int[] want = {5, 3, 5};
        dueCells(plane, want);
        int[] wrong = {LOW, -1, 3, 4, 5, 17, 200, HIGH};
        for (int w : wrong) {
            due("promise 8: cells(" + w + ")", plane.cells(w), 0);
        }
        dueCells(Checks.decided("ExEy:0<1"), new int[] {1});
        dueCells(Checks.decided("ExEy:0<0"), new int[] {1});
        dueCells(Checks.decided("ExEy:x<1"), new int[] {1, 1, 1});
        dueCells(Checks.decided("ExEy:xy<x"), new int[] {3, 1, 3});
        dueCells(Checks.decided("ExEy:y<x|y<x"), new int[] {3, 3, 3});
        dueCells(Checks.decided("ExEy:y=x&y=-x&y=0"), new int[] {7, 3, 7});
        dueCells(Checks.decided("ExEy:xy=2&y=x"), new int[] {5, 3, 5, 3, 5, 3, 5});
        PlaneCells most = Checks.decided("ExEy:y=0&y=1&y=2&y=3&y=4&y=5&y=-1&y=-2");
        dueCells(most, new int[] {17});
    }

    private static void dueCells(PlaneCells plane, int[] want) {
        due("promise 7: columns()", plane.columns(), want.length);
        for (int i = 0; i < want.length; i++) {
            due("promise 8: cells(" + i + ")", plane.cells(i), want[i]);
        }
    }

    /** xy - 1 and y over x below 0, at 0 and above 0, from the bottom. */
    private static void signs() {
        PlaneCells plane = Checks.decided("ExAy:xy<1|y>0");
        int[][] hyperbola = {{1, 0, -1, -1, -1}, {-1, -1, -1}, {-1, -1, -1, 0, 1}};
        int[][] axis = {{-1, -1, -1, 0, 1}, {-1, 0, 1}, {-1, 0, 1, 1, 1}};
        for (int i = 0; i < 3; i++) {
            for (int j = 0; j < axis[i].length; j++) {
                due("promise 9: sign(" + i + ", " + j + ", 0)", plane.sign(i, j, 0), hyperbola[i][j]);
                due("promise 9: sign(" + i + ", " + j + ", 1)", plane.sign(i, j, 1), axis[i][j]);
            }
        }
        int[] wrong = {LOW, -1, 5, 6, 8, 9, HIGH};
        for (int w : wrong) {
            due("promise 9: sign(" + w + ", 0, 0)", plane.sign(w, 0, 0), NONE);
            due("promise 9: sign(0, " + w + ", 0)", plane.sign(0, w, 0), NONE);
            due("promise 9: sign(0, 0, " + w + ")", plane.sign(0, 0, w), NONE);
        }
        due("promise 9: sign(3, 0, 0)", plane.sign(3, 0, 0), NONE);
        due("promise 9: sign(1, 3, 0)", plane.sign(1, 3, 0), NONE);
        due("promise 9: sign(0, 0, 2)", plane.sign(0, 0, 2), NONE);
        PlaneCells line = Checks.decided("ExEy:2x>1|0=0");
        for (int i = 0; i < 3; i++) {
            due("promise 9: sign(" + i + ", 0, 0) of 2x - 1", line.sign(i, 0, 0), i - 1);
            due("promise 9: sign(" + i + ", 0, 1) of 0", line.sign(i, 0, 1), 0);
        }
    }

    private static void truths() {
        PlaneCells plane = Checks.decided("ExAy:xy<1|y>0");
        int[][] want = {{0, 0, 1, 1, 1}, {1, 1, 1}, {1, 1, 1, 1, 1}};
        for (int i = 0; i < 3; i++) {
            for (int j = 0; j < want[i].length; j++) {
                due("promise 10: truth(" + i + ", " + j + ")", plane.truth(i, j), want[i][j]);
            }
            due("promise 10: truth(" + i + ", -1)", plane.truth(i, -1), NONE);
            due("promise 10: truth above all, " + i, plane.truth(i, want[i].length), NONE);
        }
        int[] wrong = {LOW, -1, 3, HIGH};
        for (int w : wrong) {
            due("promise 10: truth(" + w + ", 0)", plane.truth(w, 0), NONE);
        }
        due("promise 10: truth(0, LOW)", plane.truth(0, LOW), NONE);
        due("promise 10: truth(0, HIGH)", plane.truth(0, HIGH), NONE);
    }

    private static void columnsThatHold() {
        dueHolds("ExAy:xy<1|y>0", new int[] {0, 1, 1});
        dueHolds("AxAy:xy<1|y>0", new int[] {0, 1, 1});
        dueHolds("ExEy:xy<1|y>0", new int[] {1, 1, 1});
        dueHolds("AxEy:xy=1", new int[] {1, 0, 1});
        dueHolds("ExEy:xy=2&y=x", new int[] {0, 1, 0, 0, 0, 1, 0});
        dueHolds("AxAy:x<1", new int[] {1, 0, 0});
        dueHolds("AxEy:0=1", new int[] {0});
    }

    private static void dueHolds(String text, int[] want) {
        PlaneCells plane = Checks.decided(text);
        for (int i = 0; i < want.length; i++) {
            due("promise 11: holds(" + i + ") of " + text, plane.holds(i), want[i]);
        }
        int[] wrong = {LOW, -1, want.length, 200, HIGH};
        for (int w : wrong) {
            due("promise 11: holds(" + w + ")", plane.holds(w), NONE);
        }
    }

    private static void witnesses() {
        Object[][] rows = {
            {"ExAy:xy<1|y>0", 1}, {"AxAy:xy<1|y>0", 0}, {"AxEy:xy=1", 1}, {"ExEy:xy=1", 0}, {"ExEy:xy=2&y=x", 1},
            {"ExEy:xy=-2&y=x", -1}, {"AxAy:x<1", 1}, {"AxAy:x>1", 0}, {"ExAy:x>1", 2}, {"ExAy:x=1", 1},
            {"AxEy:0<1", -1}, {"ExEy:0=1", -1}, {"ExEy:0=0", 0}, {"AxAy:0=1", 0}, {"AxEy:x<1|y=x|x=2", -1},
        };
        for (Object[] row : rows) {
            due("promise 12: witness() of " + row[0], Checks.decided((String) row[0]).witness(), (Integer) row[1]);
        }
    }

    private static void comparisons() {
        PlaneCells roots = Checks.decided("ExEy:xy=2&y=x");
        int[][] rows = {
            {1, -141, 100, -1}, {1, -142, 100, 1}, {3, 0, 1, 0}, {3, 0, 100, 0}, {3, 1, 100, -1}, {3, -1, 100, 1},
            {5, 141, 100, 1}, {5, 142, 100, -1}, {5, 140, 99, 1}, {5, 99, 70, -1}, {5, 41, 29, 1}, {5, -142, 100, 1},
            {1, 0, 1, -1}, {1, 142, 100, -1}, {5, 1000, 1, -1}, {5, -1000, 1, 1}, {1, 1000, 1, -1}, {1, -1000, 1, 1},
        };
        for (int[] row : rows) {
            due("promise 13: compare(" + row[0] + ", " + row[1] + ", " + row[2] + ")",
                    roots.compare(row[0], row[1], row[2]), row[3]);
        }
        PlaneCells third = Checks.decided("ExEy:3x=-1");
        due("promise 13: -1/3 with -1/3", third.compare(1, -1, 3), 0);
        due("promise 13: -1/3 with -33/99", third.compare(1, -33, 99), 0);
        due("promise 13: -1/3 with -33/100", third.compare(1, -33, 100), -1);
        due("promise 13: -1/3 with -34/100", third.compare(1, -34, 100), 1);
        PlaneCells two = Checks.decided("ExEy:xy=4&y=x");
        due("promise 13: a root that is whole", two.compare(5, 2, 1), 0);
        due("promise 13: a root that is whole, 200/100", two.compare(5, 200, 100), 0);
        due("promise 13: less a root that is whole", two.compare(1, -2, 1), 0);
    }

    private static void comparisonsAtTheEdges() {
        PlaneCells plane = Checks.decided("ExEy:xy=2&y=x");
        due("promise 13: n 1000", plane.compare(1, 1000, 100), -1);
        due("promise 13: n -1000", plane.compare(1, -1000, 100), 1);
        int[][] wrong = {
            {1, 1001, 1}, {1, -1001, 1}, {1, HIGH, 1}, {1, LOW, 1}, {1, 0, 0}, {1, 0, -1}, {1, 0, 101}, {1, 0, HIGH},
            {1, 0, LOW}, {0, 0, 1}, {2, 0, 1}, {4, 0, 1}, {6, 0, 1}, {7, 0, 1}, {9, 0, 1}, {-1, 0, 1}, {-3, 0, 1},
            {HIGH, 0, 1}, {LOW, 0, 1}, {LOW + 1, 0, 1},
        };
        for (int[] row : wrong) {
            due("promise 13: compare(" + row[0] + ", " + row[1] + ", " + row[2] + ")",
                    plane.compare(row[0], row[1], row[2]), NONE);
        }
        due("promise 13: no critical number", Checks.decided("ExEy:0<1").compare(1, 0, 1), NONE);
    }
}
