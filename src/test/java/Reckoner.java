import java.math.BigDecimal;
import java.math.MathContext;
import java.util.ArrayList;
import java.util.List;
import java.util.TreeSet;

/**
 * Finds what is due for a text in another way than the class: it reads by recursion, and takes a
 * point of each cell in long decimal numbers. Two numbers nearer than NEAR count as one; with
 * numbers -5 .. 5 different ones never are so near.
 */
final class Reckoner {
    private static final MathContext DIGITS = new MathContext(130);
    private static final BigDecimal NEAR = new BigDecimal("1e-60");
    private static final BigDecimal TWO = new BigDecimal(2);

    interface Formula {
        boolean isTrue(int[] signs);
    }

    private static final class Ill extends RuntimeException {
        private static final long serialVersionUID = 1;
    }

    final List<int[]> polynomials = new ArrayList<>();
    final List<BigDecimal> critical = new ArrayList<>();
    /** Signs by column, cell and polynomial. */
    final List<List<int[]>> columns = new ArrayList<>();
    int verdict;
    int place = -1;
    private final String text;
    private int at;
    private Formula formula;
    private char forX;
    private char forY;

    Reckoner(String written) {
        text = written.replace(" ", "");
        if (written.chars().filter(c -> c == '(').count() > 8) {
            verdict = PlaneCells.ROOM;
            return;
        }
        try {
            readSentence();
        } catch (Ill ill) {
            verdict = PlaneCells.ILL;
            place = at;
            polynomials.clear();
            return;
        }
        if (polynomials.size() > 8 || !polynomials.stream().allMatch(Reckoner::isSmall)) {
            verdict = PlaneCells.ROOM;
            polynomials.clear();
            return;
        }
        cut();
        verdict = (forX == 'A' ? countHolding() == columns.size() : countHolding() > 0) ? 1 : 0;
    }

    boolean truth(int i, int j) {
        return formula.isTrue(columns.get(i).get(j));
    }

    boolean holds(int i) {
        int cells = columns.get(i).size();
        int count = 0;
        for (int j = 0; j < cells; j++) {
            count += truth(i, j) ? 1 : 0;
        }
        return forY == 'A' ? count == cells : count > 0;
    }

    int witness() {
        for (int i = 0; i < columns.size(); i++) {
            if (holds(i) == (forX == 'E')) {
                return i;
            }
        }
        return -1;
    }

    int compare(int k, int n, int d) {
        return signOf(critical.get(k).subtract(new BigDecimal(n).divide(new BigDecimal(d), DIGITS)));
    }

    private int countHolding() {
        int count = 0;
        for (int i = 0; i < columns.size(); i++) {
            count += holds(i) ? 1 : 0;
        }
        return count;
    }

    private static boolean isSmall(int[] numbers) {
        for (int c : numbers) {
            if (Math.abs(c) > 5) {
                return false;
            }
        }
        return true;
    }

    // Reading

    private boolean isNext(String some) {
        return at < text.length() && some.indexOf(text.charAt(at)) >= 0;
    }

    private char need(String some) {
        if (!isNext(some)) {
            throw new Ill();
        }
        return text.charAt(at++);
    }

    private void readSentence() {
        forX = need("EA");
        need("x");
        forY = need("EA");
        need("y");
        need(":");
        formula = readFormula();
        if (at < text.length()) {
            throw new Ill();
        }
    }

    private Formula readFormula() {
        Formula left = readClause();
        if (!isNext("|")) {
            return left;
        }
        at++;
        Formula right = readFormula();
        return signs -> left.isTrue(signs) || right.isTrue(signs);
    }

    private Formula readClause() {
        Formula left = readUnit();
        if (!isNext("&")) {
            return left;
        }
        at++;
        Formula right = readClause();
        return signs -> left.isTrue(signs) && right.isTrue(signs);
    }

    private Formula readUnit() {
        if (isNext("~")) {
            at++;
            Formula unit = readUnit();
            return signs -> !unit.isTrue(signs);
        }
        if (isNext("(")) {
            at++;
            Formula inner = readFormula();
            need(")");
            return inner;
        }
        return readAtom();
    }

    private Formula readAtom() {
        int[] left = readSum();
        int wanted = "<=>".indexOf(need("<=>")) - 1;
        int[] right = readSum();
        for (int k = 0; k < 4; k++) {
            left[k] -= right[k];
        }
        int p = polynomials.size();
        polynomials.add(left);
        return signs -> signs[p] == wanted;
    }

    private int[] readSum() {
        int[] sum = new int[4];
        boolean minus = isNext("-");
        if (minus) {
            at++;
        }
        readTerm(sum, minus ? -1 : 1);
        while (isNext("+-")) {
            readTerm(sum, need("+-") == '-' ? -1 : 1);
        }
        return sum;
    }

    private void readTerm(int[] sum, int factor) {
        if (isNext("0123456789")) {
            int number = factor * (text.charAt(at++) - '0');
            sum[isNext("xy") ? readLetters() : 0] += number;
        } else {
            sum[readLetters()] += factor;
        }
    }

    private int readLetters() {
        String other = need("xy") == 'x' ? "y" : "x";
        if (isNext(other)) {
            at++;
            return 3;
        }
        return other.equals("y") ? 1 : 2;
    }

    // Cutting

    private static int signOf(BigDecimal v) {
        return v.abs().compareTo(NEAR) < 0 ? 0 : v.signum();
    }

    private static BigDecimal valueAt(BigDecimal x, int constant, int linear) {
        return x.multiply(new BigDecimal(linear), DIGITS).add(new BigDecimal(constant), DIGITS);
    }

    /** The same numbers, each once, in order. */
    private static List<BigDecimal> different(List<BigDecimal> numbers) {
        List<BigDecimal> once = new ArrayList<>();
        for (BigDecimal v : new TreeSet<>(numbers)) {
            if (once.isEmpty() || signOf(v.subtract(once.get(once.size() - 1))) != 0) {
                once.add(v);
            }
        }
        return once;
    }

    /** One number below all, each, one between each two, and one above all. */
    private static List<BigDecimal> samples(List<BigDecimal> numbers) {
        List<BigDecimal> all = new ArrayList<>();
        int n = numbers.size();
        all.add(n == 0 ? BigDecimal.ZERO : numbers.get(0).subtract(BigDecimal.ONE));
        for (int k = 0; k < n; k++) {
            all.add(numbers.get(k));
            BigDecimal next = k + 1 < n ? numbers.get(k + 1) : numbers.get(k).add(TWO);
            all.add(numbers.get(k).add(next).divide(TWO, DIGITS));
        }
        return all;
    }

    private void cut() {
        List<BigDecimal> zeros = new ArrayList<>();
        for (int[] c : polynomials) {
            addZeros(zeros, c[2], c[3], 0);
            addZeros(zeros, c[0], c[1], 0);
            for (int[] e : polynomials) {
                addZeros(zeros, c[2] * e[0] - e[2] * c[0],
                        c[2] * e[1] + c[3] * e[0] - e[2] * c[1] - e[3] * c[0],
                        c[3] * e[1] - e[3] * c[1]);
            }
        }
        critical.addAll(different(zeros));
        for (BigDecimal x : samples(critical)) {
            columns.add(column(x));
        }
    }

    private static void addZeros(List<BigDecimal> zeros, int constant, int linear, int square) {
        int inside = linear * linear - 4 * square * constant;
        if (square == 0 && linear != 0) {
            zeros.add(new BigDecimal(-constant).divide(new BigDecimal(linear), DIGITS));
        } else if (square != 0 && inside >= 0) {
            BigDecimal root = new BigDecimal(inside).sqrt(DIGITS);
            BigDecimal bottom = new BigDecimal(2 * square);
            zeros.add(new BigDecimal(-linear).add(root).divide(bottom, DIGITS));
            zeros.add(new BigDecimal(-linear).subtract(root).divide(bottom, DIGITS));
        }
    }

    private List<int[]> column(BigDecimal x) {
        List<BigDecimal> zeros = new ArrayList<>();
        for (int[] c : polynomials) {
            BigDecimal a = valueAt(x, c[2], c[3]);
            if (signOf(a) != 0) {
                zeros.add(valueAt(x, c[0], c[1]).negate().divide(a, DIGITS));
            }
        }
        List<int[]> cells = new ArrayList<>();
        for (BigDecimal y : samples(different(zeros))) {
            int[] signs = new int[polynomials.size()];
            for (int p = 0; p < signs.length; p++) {
                int[] c = polynomials.get(p);
                BigDecimal ay = valueAt(x, c[2], c[3]).multiply(y, DIGITS);
                signs[p] = signOf(ay.add(valueAt(x, c[0], c[1]), DIGITS));
            }
            cells.add(signs);
        }
        return cells;
    }
}
