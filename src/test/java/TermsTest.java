/**
 * The sections 'What it is' and 'Terms' of the document, sentence by sentence: each method stands
 * for the sentence above it and asks on both sides of the boundary that it names.
 */
public final class TermsTest {
    private static final int ILL = PlaneCells.ILL;
    private static final int NONE = PlaneCells.NONE;
    private static final int CALLS = 512;
    private static final Checks CHECKS = new Checks("TermsTest");

    private static final String DIGITS = "0123456789";
    private static final String TERM = DIGITS + "xy";
    private static final String SUM = TERM + "-";
    private static final String UNIT = SUM + "~(";
    private static final String RELATION = "<=>";

    public static void main(String[] args) {
        theCallNumbered512();
        refusedCallsCountToo();
        laterCallsEnd();
        atMost80Characters();
        codes32To126();
        blanksAreLeftOut();
        placesWithoutBlanks();
        headOfASentence();
        startOfAUnit();
        leftSums();
        rightSums();
        behindAUnit();
        oneOrMoreClauses();
        oneOrMoreUnits();
        notAndAUnit();
        formulaInParentheses();
        oneOfTheRelations();
        perhapsAMinus();
        anyNumberOfTerms();
        digits();
        letters();
        illAtACharacter();
        illAtTheEnd();
        leftLessRight();
        numberedAsAtomsCome();
        noCriticalNumber();
        oneCriticalNumber();
        zeroForAllX();
        zerosOfPairs();
        eachNumberOnce();
        nearNumbersAreTwo();
        mostCriticalNumbers();
        columnsFromTheLeft();
        cellsOfNoneAndOne();
        cellsOfMany();
        cellsFromTheBottom();
        alikeOverAllX();
        allCellsOrOne();
        allColumnsOrOne();
        CHECKS.end();
    }

    private static void due(String what, long got, long want) {
        CHECKS.due(what, got, want);
    }

    private static void dueVerdict(String text, int want) {
        due("decide of " + text, Checks.decide(new PlaneCells(), text), want);
    }

    private static void duePlace(String text, int want) {
        PlaneCells plane = new PlaneCells();
        int verdict = Checks.decide(plane, text);
        CHECKS.due(text + " is ill-formed", verdict == ILL, want >= 0);
        due("place() of " + text, plane.place(), want);
    }

    private static void dueColumns(String formula, int want) {
        due("columns() of " + formula, Checks.decided("ExEy:" + formula).columns(), want);
    }

    private static void dueCells(String formula, int... want) {
        PlaneCells plane = Checks.decided("ExEy:" + formula);
        due("columns() of " + formula, plane.columns(), want.length);
        for (int i = 0; i < want.length; i++) {
            due("cells(" + i + ") of " + formula, plane.cells(i), want[i]);
        }
    }

    // "An object is used for at most 512 calls after it has been made; what later calls answer is free."

    /** The next call on it is the 512th. */
    private static PlaneCells afterCalls511() {
        PlaneCells plane = Checks.decided("AxEy:xy=1");
        int made = "AxEy:xy=1".length() + 1;
        for (; made < CALLS - 1; made++) {
            due("call " + made, plane.sign(made % 3, 0, 0), made % 3 == 0 ? 1 : -1);
        }
        return plane;
    }

    private static void theCallNumbered512() {
        CHECKS.due("512th: write", afterCalls511().write('x'), true);
        due("512th: decide()", afterCalls511().decide(), ILL);
        due("512th: place()", afterCalls511().place(), -1);
        due("512th: polynomials()", afterCalls511().polynomials(), 1);
        due("512th: coefficient(0, 3)", afterCalls511().coefficient(0, 3), 1);
        due("512th: columns()", afterCalls511().columns(), 3);
        due("512th: cells(1)", afterCalls511().cells(1), 1);
        due("512th: sign(2, 2, 0)", afterCalls511().sign(2, 2, 0), 1);
        due("512th: truth(2, 1)", afterCalls511().truth(2, 1), 1);
        due("512th: holds(1)", afterCalls511().holds(1), 0);
        due("512th: witness()", afterCalls511().witness(), 1);
        due("512th: compare(1, 0, 1)", afterCalls511().compare(1, 0, 1), 0);
    }

    private static void refusedCallsCountToo() {
        PlaneCells full = new PlaneCells();
        for (int made = 1; made <= CALLS - 2; made++) {
            CHECKS.due("write, call " + made, full.write(' '), made <= 80);
        }
        due("511th: decide()", full.decide(), ILL);
        due("512th: place()", full.place(), 0);
        PlaneCells empty = new PlaneCells();
        for (int made = 1; made <= CALLS; made++) {
            due("decide() of nothing, call " + made, empty.decide(), ILL);
        }
        PlaneCells often = new PlaneCells();
        for (int round = 0; round < 6; round++) {
            due("80 characters, round " + round, Checks.decide(often, "ExEy:" + "~".repeat(72) + "0=0"), 1);
        }
    }

    /** Their answers are free, but by LANGUAGE.md no call ever throws or fails to end. */
    private static void laterCallsEnd() {
        PlaneCells plane = afterCalls511();
        for (int made = 0; made < 20_000; made++) {
            plane.write((char) (32 + made % 95));
            plane.sign(made % 5, made % 7, made % 3);
            if (made % 100 == 0) {
                plane.decide();
            }
        }
    }

    // "TEXT: at most 80 characters with codes 32 .. 126; blanks (32) are left out, places are counted without them."

    private static void atMost80Characters() {
        String of80 = "ExEy:" + "0+".repeat(36) + "0=0";
        due("its length", of80.length(), 80);
        dueVerdict(of80, 1);
        dueVerdict(of80.replace("0+0=", "0="), 1);
        PlaneCells plane = new PlaneCells();
        CHECKS.due("80 are taken", Checks.write(plane, of80), true);
        CHECKS.due("the 81st is not", plane.write('?'), false);
        due("the 81st is not in the text", plane.decide(), 1);
    }

    private static void codes32To126() {
        for (int code = 0; code <= Character.MAX_VALUE; code++) {
            PlaneCells plane = new PlaneCells();
            CHECKS.due("write of code " + code, plane.write((char) code), code >= 32 && code <= 126);
        }
        duePlace("ExEy:0<1!", 8);
        duePlace("ExEy:0<1~", 8);
        duePlace("ExEy:0<1 ", -1);
    }

    private static void blanksAreLeftOut() {
        dueVerdict("ExEy:2x+1y<-1&~(0=1)", 1);
        dueVerdict(" E x  E y : 2 x + 1 y < - 1 & ~ ( 0 = 1 ) ", 1);
        dueVerdict("ExEy:x y=1&y x=1", 1);
        due("2 x y is one term", Checks.decided("ExEy:2 x y=0").coefficient(0, 3), 2);
        dueVerdict(" ".repeat(72) + "ExEy:0<1", 1);
        dueVerdict("ExEy:0<1" + " ".repeat(72), 1);
    }

    private static void placesWithoutBlanks() {
        duePlace("ExEy:1 2=0", 6);
        duePlace(" E x E y : 1 2 = 0", 6);
        duePlace(" ".repeat(79) + "?", 0);
        duePlace(" ".repeat(80), 0);
        duePlace(" E ", 1);
        duePlace("E  y", 1);
        duePlace("ExEy:0<1" + " ".repeat(71) + "1", 8);
    }

    // "A SENTENCE is E or A, x, E or A, y, : and a formula" up to "letters are x, y, xy or yx"

    /** Of all characters these alone can stand behind what is well begun. */
    private static void dueNext(String begun, String allowed) {
        for (char c = '!'; c <= '~'; c++) {
            PlaneCells plane = new PlaneCells();
            int verdict = Checks.decide(plane, begun + c);
            boolean stops = verdict == ILL && plane.place() == begun.length();
            CHECKS.due("stops in " + begun + c + " at the last", stops, allowed.indexOf(c) < 0);
        }
    }

    private static void headOfASentence() {
        dueNext("", "EA");
        for (String first : new String[] {"E", "A"}) {
            dueNext(first, "x");
            dueNext(first + "x", "EA");
            dueNext(first + "xE", "y");
            dueNext(first + "xA", "y");
            dueNext(first + "xEy", ":");
            dueNext(first + "xAy", ":");
        }
    }

    private static void startOfAUnit() {
        String[] before = {"", "~", "(", "~~", "((", "~(", "(~", "0<1&", "0<1|", "(0<1)&", "(0<1)|", "(0<1&", "(0<1|"};
        for (String begun : before) {
            dueNext("ExEy:" + begun, UNIT);
        }
    }

    private static void leftSums() {
        dueNext("ExEy:-", TERM);
        for (String begun : new String[] {"", "-", "3+", "3-", "x+", "xy-", "-3yx+", "0<1&", "(", "~"}) {
            String behind = "+-" + RELATION;
            dueNext("ExEy:" + begun + "2", "xy" + behind);
            dueNext("ExEy:" + begun + "x", "y" + behind);
            dueNext("ExEy:" + begun + "y", "x" + behind);
            dueNext("ExEy:" + begun + "xy", behind);
            dueNext("ExEy:" + begun + "yx", behind);
            dueNext("ExEy:" + begun + "2x", "y" + behind);
            dueNext("ExEy:" + begun + "2y", "x" + behind);
            dueNext("ExEy:" + begun + "2xy", behind);
            dueNext("ExEy:" + begun + "2yx", behind);
            dueNext("ExEy:" + begun + "2+", TERM);
            dueNext("ExEy:" + begun + "x-", TERM);
        }
    }

    private static void rightSums() {
        for (String relation : new String[] {"<", "=", ">"}) {
            dueNext("ExEy:x" + relation, SUM);
            dueNext("ExEy:x" + relation + "-", TERM);
            String begun = "ExEy:x" + relation;
            dueNext(begun + "2", "xy+-&|");
            dueNext(begun + "x", "y+-&|");
            dueNext(begun + "y", "x+-&|");
            dueNext(begun + "xy", "+-&|");
            dueNext(begun + "2yx", "+-&|");
            dueNext(begun + "2+", TERM);
            dueNext(begun + "x-", TERM);
            dueNext(begun + "-2x+3", "xy+-&|");
        }
    }

    private static void behindAUnit() {
        dueNext("ExEy:(0<xy", "+-&|)");
        dueNext("ExEy:(0<xy)", "&|");
        dueNext("ExEy:((0<xy)", "&|)");
        dueNext("ExEy:((0<xy))", "&|");
        dueNext("ExEy:(0<1)&0<xy", "+-&|");
        dueNext("ExEy:~(~0<1&(0<1|0<xy", "+-&|)");
        dueNext("ExEy:~(~0<1&(0<1|0<xy)", "&|)");
        dueNext("ExEy:~(~0<1&(0<1|0<xy))", "&|");
    }

    /** "A formula is one or more CLAUSES with | between them" */
    private static void oneOrMoreClauses() {
        duePlace("ExEy:", 5);
        duePlace("ExEy:|0<1", 5);
        dueVerdict("ExEy:0<1", 1);
        dueVerdict("ExEy:0<0|0<1", 1);
        dueVerdict("ExEy:0<0" + "|0<0".repeat(6) + "|0<1", 1);
        dueVerdict("ExEy:0<0" + "|0<0".repeat(7), 0);
        duePlace("ExEy:0<1|", 9);
        duePlace("ExEy:0<1||0<1", 9);
    }

    /** "a clause one or more UNITS with & between them" */
    private static void oneOrMoreUnits() {
        duePlace("ExEy:&0<1", 5);
        dueVerdict("ExEy:0<1&0<1", 1);
        dueVerdict("ExEy:0<1" + "&0<1".repeat(7), 1);
        dueVerdict("ExEy:0<1" + "&0<1".repeat(6) + "&0<0", 0);
        dueVerdict("ExEy:0<1|0<1&0<0", 1);
        dueVerdict("ExEy:0<1|0<0&0<1", 1);
        dueVerdict("ExEy:0<0&0<1|0<1", 1);
        dueVerdict("ExEy:0<1&0<0|0<0", 0);
        duePlace("ExEy:0<1&", 9);
        duePlace("ExEy:0<1&&0<1", 9);
        duePlace("ExEy:0<1|&0<1", 9);
    }

    /** "a unit is ~ and a unit (not)" */
    private static void notAndAUnit() {
        dueVerdict("ExEy:~0<1", 0);
        dueVerdict("ExEy:~~0<1", 1);
        dueVerdict("ExEy:~0<1|0<1", 1);
        dueVerdict("ExEy:~0<0&0<0", 0);
        dueVerdict("ExEy:~(0<0&0<0)", 1);
        dueVerdict("ExEy:" + "~".repeat(72) + "0<1", 1);
        dueVerdict("ExEy:" + "~".repeat(71) + "0<1", 0);
        duePlace("ExEy:~", 6);
        duePlace("ExEy:" + "~".repeat(75), 80);
        duePlace("ExEy:0<1~", 8);
    }

    /** "a formula in ( )" */
    private static void formulaInParentheses() {
        dueVerdict("ExEy:(0<1|0<1)&0<0", 0);
        dueVerdict("ExEy:0<0&(0<1|0<1)", 0);
        duePlace("ExEy:()", 6);
        duePlace("ExEy:(0<1", 9);
        duePlace("ExEy:(0<1)", -1);
        duePlace("ExEy:(0<1))", 10);
        duePlace("ExEy:" + "(".repeat(8) + "0<1" + ")".repeat(7), 23);
        duePlace("ExEy:" + "(".repeat(8) + "0<1" + ")".repeat(8), -1);
        duePlace("ExEy:" + "(".repeat(8) + "0<1" + ")".repeat(9), 24);
    }

    /** "an ATOM: a sum, one of < = > , and a sum" */
    private static void oneOfTheRelations() {
        int[][] want = {{1, 0, 0}, {0, 1, 0}, {0, 0, 1}};
        for (int r = 0; r < 3; r++) {
            for (int left = 1; left <= 3; left++) {
                dueVerdict("ExEy:" + left + RELATION.charAt(r) + "2", want[r][left - 1]);
            }
        }
        duePlace("ExEy:<2", 5);
        duePlace("ExEy:1", 6);
        duePlace("ExEy:1<", 7);
        duePlace("ExEy:1<=2", 7);
        duePlace("ExEy:1<2<3", 8);
    }

    /** "A sum is a term, before it perhaps -" */
    private static void perhapsAMinus() {
        dueVerdict("ExEy:-1<1", 1);
        dueVerdict("ExEy:1<-1", 0);
        dueVerdict("ExEy:-1=-1", 1);
        dueVerdict("ExEy:-0=0", 1);
        duePlace("ExEy:--1<1", 6);
        duePlace("ExEy:+1<1", 5);
        duePlace("ExEy:1<--1", 8);
        duePlace("ExEy:1<+1", 7);
        duePlace("ExEy:1+-1<1", 7);
    }

    /** "and any number of further terms, each with + or - before it" */
    private static void anyNumberOfTerms() {
        dueVerdict("ExEy:1=1", 1);
        dueVerdict("ExEy:1+1=2", 1);
        dueVerdict("ExEy:3-1-1=1", 1);
        dueVerdict("ExEy:1=3-1-1", 1);
        dueVerdict("AxAy:" + "x+x-".repeat(18) + "x=x", 1);
        dueVerdict("AxAy:x=" + "x-x+".repeat(18) + "x", 1);
        duePlace("ExEy:" + "x+".repeat(37), 79);
        duePlace("ExEy:" + "x+".repeat(37) + "x", 80);
    }

    /** "A term is a digit (0 .. 9), a digit and letters" */
    private static void digits() {
        for (int digit = 0; digit <= 9; digit++) {
            String less = digit > 5 ? "-5" : "";
            int want = digit > 5 ? digit - 5 : digit;
            due("digit " + digit, Checks.decided("ExEy:" + digit + less + "=0").coefficient(0, 0), want);
            String lessX = digit > 5 ? "-5x" : "";
            due("digit " + digit + " x", Checks.decided("ExEy:" + digit + "x" + lessX + "=0").coefficient(0, 1), want);
        }
        duePlace("ExEy:/<1", 5);
        duePlace("ExEy::<1", 5);
        duePlace("ExEy:10<1", 6);
        duePlace("ExEy:0x<1", -1);
    }

    /** "or letters; letters are x, y, xy or yx (x times y)" */
    private static void letters() {
        String[] written = {"x", "y", "xy", "yx"};
        int[] number = {1, 2, 3, 3};
        for (int w = 0; w < written.length; w++) {
            PlaneCells plane = Checks.decided("ExEy:4" + written[w] + "+" + written[w] + "=0");
            for (int k = 0; k < 4; k++) {
                due("number " + k + " of 4 and 1 " + written[w], plane.coefficient(0, k), k == number[w] ? 5 : 0);
            }
        }
        duePlace("ExEy:w<1", 5);
        duePlace("ExEy:z<1", 5);
        duePlace("ExEy:xx<1", 6);
        duePlace("ExEy:yy<1", 6);
        duePlace("ExEy:xyx<1", 7);
        duePlace("ExEy:yxy<1", 7);
        duePlace("ExEy:x2<1", 6);
    }

    // "ILL-FORMED at a place: read from left to right, the character there can't stand there,
    // or the sentence ends there too early (its length then)."

    private static final String LONG = "ExAy:~(2x-y<1&-xy=yx)|(0>1|(9-4=x))&~3yx+5<-y";

    private static void illAtACharacter() {
        for (int i = 0; i < LONG.length(); i++) {
            duePlace(LONG.substring(0, i) + "?" + LONG.substring(i + 1), i);
            duePlace(LONG.substring(0, i) + "?" + LONG.substring(i), i);
            duePlace(LONG.substring(0, i) + "??", i);
        }
        duePlace(LONG, -1);
        duePlace(LONG + "?", LONG.length());
    }

    private static void illAtTheEnd() {
        int firstEnd = "ExAy:~(2x-y<1&-xy=yx)".length();
        int secondEnd = "ExAy:~(2x-y<1&-xy=yx)|(0>1|(9-4=x))".length();
        for (int i = 0; i < LONG.length(); i++) {
            boolean isSentence = i == firstEnd || i == secondEnd;
            duePlace(LONG.substring(0, i), isSentence ? -1 : i);
            duePlace(LONG.substring(0, i) + "   ", isSentence ? -1 : i);
        }
        duePlace("E" + " ".repeat(78) + "x", 2);
        duePlace("ExEy:" + "x-".repeat(37) + "x", 80);
    }

    /** "The POLYNOMIAL of an atom is its left sum less its right one, c0 + c1 x + c2 y + c3 xy" */
    private static void leftLessRight() {
        PlaneCells plane = Checks.decided("ExEy:9x-9xy+2y-3+xy=5x-4yx-2+3y");
        int[] want = {-1, 4, -1, -4};
        for (int k = 0; k < 4; k++) {
            due("left less right, " + k, plane.coefficient(0, k), want[k]);
        }
        PlaneCells nothing = Checks.decided("ExEy:xy+x+y+1=1+y+x+yx");
        for (int k = 0; k < 4; k++) {
            due("nothing is left, " + k, nothing.coefficient(0, k), 0);
        }
    }

    /** "polynomials are numbered from 0 as their atoms come (also if they are alike)" */
    private static void numberedAsAtomsCome() {
        PlaneCells plane = Checks.decided("ExEy:(4=0|~3=0)&2=0|1=0|1=0&(0=0|(5=0))|1>0");
        int[] want = {4, 3, 2, 1, 1, 0, 5, 1};
        due("eight, alike ones among them", plane.polynomials(), want.length);
        for (int p = 0; p < want.length; p++) {
            due("c0 of polynomial " + p, plane.coefficient(p, 0), want[p]);
        }
    }

    // "CRITICAL numbers: all real x at which one of the following is 0, of those that aren't 0 for all x:
    // the a and b of each polynomial, and a of i times b of j less a of j times b of i, for each two polynomials."

    private static void noCriticalNumber() {
        String[] none = {"0=0", "0<1", "y<1", "y=0", "2y=3&3y=4", "x=x", "xy=xy", "y=1&5=0&0=0", "0x+0y+0xy=0"};
        for (String formula : none) {
            dueColumns(formula, 1);
            due("no number, " + formula, Checks.decided("ExEy:" + formula).compare(1, 0, 1), NONE);
        }
    }

    private static void oneCriticalNumber() {
        dueCritical("3x=2", 2, 3);
        dueCritical("y=x-4", 4, 1);
        dueCritical("xy=2y", 2, 1);
        dueCritical("xy=-5", 0, 1);
        dueCritical("xy+5y=3", -5, 1);
        dueCritical("xy+y=x+1", -1, 1);
        dueCritical("xy=-x", 0, 1);
    }

    /** The numbers are those of the row, in pairs of n and d, the least first. */
    private static void dueCritical(String formula, int... row) {
        PlaneCells plane = Checks.decided("ExEy:" + formula);
        due("columns() of " + formula, plane.columns(), row.length + 1);
        for (int k = 0; 2 * k < row.length; k++) {
            due("number " + k + " of " + formula, plane.compare(2 * k + 1, row[2 * k], row[2 * k + 1]), 0);
        }
    }

    private static void zeroForAllX() {
        dueCritical("x=1&x=1", 1, 1);
        dueCritical("y=x&y=x", 0, 1);
        dueCritical("y=x&2y=2x&3x=3y", 0, 1);
        dueCritical("xy+y=1&1=xy+y", -1, 1);
        dueCritical("x=1&x=2", 1, 1, 2, 1);
        dueCritical("xy=y&xy=y", 1, 1);
        dueCritical("x=3&0=0&5=0", 3, 1);
    }

    /** -x x - 4 x + c has two zeros, one or none as c is -3, -4 or -5; the others are -4 and 0. */
    private static void zerosOfPairs() {
        dueCritical("xy=-3&y=x+4", -4, 1, -3, 1, -1, 1, 0, 1);
        dueCritical("xy=-4&y=x+4", -4, 1, -2, 1, 0, 1);
        dueCritical("xy=-5&y=x+4", -4, 1, 0, 1);
        dueCritical("y=x&y=2-x", 0, 1, 1, 1, 2, 1);
        dueCritical("y=x&y=x+2", -2, 1, 0, 1);
        dueCritical("y=x-5&y=5", 5, 1, 10, 1);
        dueColumns("xy=2&y=x", 7);
        dueColumns("xy=0&y=x", 3);
        dueColumns("xy=-2&y=x", 3);
    }

    private static void eachNumberOnce() {
        dueCritical("x=1|2x=2|y=x-1|xy=y|5-5x=0", 1, 1);
        dueCritical("xy=4&y=x&x=2", -2, 1, 0, 1, 2, 1);
        dueCritical("xy=4&y=x&x=3", -2, 1, 0, 1, 2, 1, 3, 1);
        dueColumns("xy=2&y=x&2xy=4&5y=5x", 7);
        dueColumns("xy=2&y=x&2xy=5", 11);
        dueColumns("xy=1&y=x&4xy=4&2x=2", 7);
    }

    /**
     * The nearest two that numbers -5 .. 5 can make: 9 x x + 40 x - 34 and 50 x x - 5 x - 23 are 0 at
     * 0.73007339 and 0.73007353; no other one of these lies between 73 / 100 and 46 / 63.
     */
    private static void nearNumbersAreTwo() {
        PlaneCells plane = Checks.decided("ExEy:5xy+4x=3y+5|5y=4xy+5x+3|5xy+y=5x+5|5xy+5x=4y+3");
        int between = 0;
        int first = 0;
        for (int i = 1; i < plane.columns(); i += 2) {
            if (plane.compare(i, 73, 100) > 0 && plane.compare(i, 46, 63) < 0) {
                first = between == 0 ? i : first;
                between++;
            }
        }
        due("two near numbers", between, 2);
        CHECKS.due("0 and 1 meet at the first", meet(plane, first, 0, 1), true);
        CHECKS.due("2 and 3 don't meet at the first", meet(plane, first, 2, 3), false);
        CHECKS.due("0 and 1 don't meet between", meet(plane, first + 1, 0, 1), false);
        CHECKS.due("2 and 3 don't meet between", meet(plane, first + 1, 2, 3), false);
        CHECKS.due("0 and 1 don't meet at the second", meet(plane, first + 2, 0, 1), false);
        CHECKS.due("2 and 3 meet at the second", meet(plane, first + 2, 2, 3), true);
    }

    private static boolean meet(PlaneCells plane, int i, int p, int q) {
        for (int j = 0; j < plane.cells(i); j++) {
            if (plane.sign(i, j, p) == 0 && plane.sign(i, j, q) == 0) {
                return true;
            }
        }
        return false;
    }

    /** With 8 polynomials there are 8 a, 8 b and 28 pairs with two zeros each: 72 numbers, all different here. */
    private static void mostCriticalNumbers() {
        String seven = "2+y=x+xy|3+x=y+3xy|2+x=y+4xy|3+y=x+4xy|4=x+y+5xy|4+x=xy|5+y+2xy=x";
        String eight = seven + "|5+3x=y+xy";
        dueColumns(seven, 2 * (7 + 7 + 2 * 21) + 1);
        dueColumns(eight, 2 * (8 + 8 + 2 * 28) + 1);
        PlaneCells plane = Checks.decided("ExEy:" + eight);
        CHECKS.due("the last number is there", plane.compare(143, 0, 1) != NONE, true);
        due("none behind it", plane.compare(145, 0, 1), NONE);
        due("cells(144), 8 different y", plane.cells(144), 17);
        due("cells(145)", plane.cells(145), 0);
        for (int i = 1; i + 2 < 145; i += 2) {
            CHECKS.due("in order, " + i, inOrder(Checks.decided("ExEy:" + eight), i), true);
        }
    }

    /** False if some n / 10 shows that the number of column i + 2 is less than that of column i. */
    private static boolean inOrder(PlaneCells plane, int i) {
        for (int n = -300; n <= 300; n += 3) {
            if (plane.compare(i, n, 10) > plane.compare(i + 2, n, 10)) {
                return false;
            }
        }
        return true;
    }

    /** "column 2 k + 1 is the set of points whose x is the k-th critical number (from 0, the least), column 2 k
     * those with x between the one before and the next one (or below, above all)" */
    private static void columnsFromTheLeft() {
        PlaneCells plane = Checks.decided("ExEy:x=3|x=-2|2x=1");
        int[][] want = {{-1, -1, -1}, {-1, 0, -1}, {-1, 1, -1}, {-1, 1, 0}, {-1, 1, 1}, {0, 1, 1}, {1, 1, 1}};
        due("with 3 numbers", plane.columns(), 7);
        for (int i = 0; i < want.length; i++) {
            for (int p = 0; p < 3; p++) {
                due("sign(" + i + ", 0, " + p + ")", plane.sign(i, 0, p), want[i][p]);
            }
        }
        PlaneCells one = Checks.decided("ExEy:-x>0");
        for (int i = 0; i < 3; i++) {
            due("sign of -x in column " + i, one.sign(i, 0, 0), 1 - i);
        }
        due("sign in the only column", Checks.decided("ExEy:-1<0").sign(0, 0, 0), -1);
    }

    // "With n different ones the column has 2 n + 1 CELLS"

    private static void cellsOfNoneAndOne() {
        dueCells("0<1", 1);
        dueCells("0=0", 1);
        dueCells("x=0", 1, 1, 1);
        dueCells("y=0", 3);
        dueCells("y=0|5y=0|0=y|0=0", 3);
        dueCells("xy=0", 3, 1, 3);
        dueCells("xy=1", 3, 1, 3);
        dueCells("xy=1|x=0", 3, 1, 3);
        dueCells("xy=1|2xy=2", 3, 1, 3);
        dueCells("xy=y|xy=-y|y=0", 3, 3, 3, 3, 3);
    }

    private static void cellsOfMany() {
        dueCells("y=0|y=1", 5);
        dueCells("y=x|y=-x", 5, 3, 5);
        dueCells("xy=1|y=1", 5, 3, 5, 3, 5);
        dueCells("xy=-4|y=x+4", 5, 5, 5, 3, 5, 3, 5);
        dueCells("y=0|y=1|y=2|y=3|y=4|y=5|y=-1", 15);
        dueCells("y=0|y=1|y=2|y=3|y=4|y=5|y=-1|y=-2", 17);
        dueCells("y=0|y=1|y=2|y=3|y=4|y=5|y=-1|5-y=0", 15);
        dueCells("xy=0|xy=1|xy=2|xy=3|xy=4|xy=5|xy=-1|xy=-2", 17, 1, 17);
    }

    /** "from 0 at the bottom: cell 2 k + 1 has the points whose y is the k-th of these, cell 2 k those between" */
    private static void cellsFromTheBottom() {
        PlaneCells plane = Checks.decided("ExEy:y=3|y=-2|1=2y");
        int[][] want = {{-1, -1, 1}, {-1, 0, 1}, {-1, 1, 1}, {-1, 1, 0}, {-1, 1, -1}, {0, 1, -1}, {1, 1, -1}};
        for (int j = 0; j < want.length; j++) {
            for (int p = 0; p < 3; p++) {
                due("sign(0, " + j + ", " + p + ")", plane.sign(0, j, p), want[j][p]);
            }
        }
        due("no cell above", plane.sign(0, 7, 0), NONE);
        due("no cell below", plane.sign(0, -1, 0), NONE);
    }

    /** "which of these y are the same, and in which order they lie, is alike over all x of the column":
     * y = x and y = -x change places at 0, 1 / x jumps there, and -4 / x touches x + 4 at -2 from above. */
    private static void alikeOverAllX() {
        PlaneCells lines = Checks.decided("ExEy:y=x|y=-x");
        for (int i = 0; i < 3; i++) {
            due("y = x in cell 1 of column " + i, lines.sign(i, 1, 0), i == 2 ? -1 : 0);
            due("y = -x in cell 1 of column " + i, lines.sign(i, 1, 1), i == 0 ? -1 : 0);
        }
        PlaneCells jump = Checks.decided("ExEy:xy=1|y=0");
        due("1 / x is below 0 on the left", jump.sign(0, 1, 0), 0);
        due("1 / x is above 0 on the right", jump.sign(2, 3, 0), 0);
        due("at 0 there is no 1 / x", jump.sign(1, 1, 0), -1);
        PlaneCells touch = Checks.decided("ExEy:xy=-4|y=x+4");
        for (int i = 2; i <= 4; i++) {
            due("x + 4 in cell 1 of column " + i, touch.sign(i, 1, 1), 0);
            due("-4 / x in cell 1 of column " + i, touch.sign(i, 1, 0), i == 3 ? 0 : 1);
        }
    }

    /** "A column HOLDS if the formula is true in all its cells (with A for y), or in one at least (with E)" */
    private static void allCellsOrOne() {
        String[] cells = {"y<0", "y=0", "y>0"};
        for (String cell : cells) {
            due("one cell, E: " + cell, Checks.decided("ExEy:" + cell).holds(0), 1);
            due("one cell, A: " + cell, Checks.decided("ExAy:" + cell).holds(0), 0);
            due("all but one, E: " + cell, Checks.decided("ExEy:~" + cell).holds(0), 1);
            due("all but one, A: " + cell, Checks.decided("ExAy:~" + cell).holds(0), 0);
            due("none, E: " + cell, Checks.decided("ExEy:0<0&" + cell).holds(0), 0);
            due("none, A: " + cell, Checks.decided("ExAy:0<0&" + cell).holds(0), 0);
            due("all, E: " + cell, Checks.decided("ExEy:0=0|" + cell).holds(0), 1);
            due("all, A: " + cell, Checks.decided("ExAy:0=0|" + cell).holds(0), 1);
        }
        due("the only cell, true, A", Checks.decided("ExAy:0<1").holds(0), 1);
        due("the only cell, false, E", Checks.decided("ExEy:0<0").holds(0), 0);
    }

    /** "the sentence is TRUE if all columns hold (A for x), or one at least does (E)" */
    private static void allColumnsOrOne() {
        String[] columns = {"x<0", "x=0", "x>0"};
        for (String column : columns) {
            dueVerdict("ExEy:" + column, 1);
            dueVerdict("AxEy:" + column, 0);
            dueVerdict("ExEy:~" + column, 1);
            dueVerdict("AxEy:~" + column, 0);
            dueVerdict("ExAy:0<0&" + column, 0);
            dueVerdict("AxAy:0<0&" + column, 0);
            dueVerdict("ExAy:0=0|" + column, 1);
            dueVerdict("AxAy:0=0|" + column, 1);
        }
        dueVerdict("AxAy:0<1", 1);
        dueVerdict("ExEy:0<0", 0);
    }
}
