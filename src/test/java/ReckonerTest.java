import java.math.BigDecimal;
import java.math.RoundingMode;

/** Made-up texts, always the same ones: every answer of the class against that of Reckoner. */
public final class ReckonerTest {
    /** An object is promised for 512 calls: 81 for a text and decide, and these. */
    private static final int QUESTIONS = 400;
    private static final String WRITTEN = "EAxy:~()&|<=>+-0123456789 ?";
    private static final Checks CHECKS = new Checks("ReckonerTest");

    private static long seed = 20261115;
    private static String text;
    private static PlaneCells plane;
    private static int asked;

    public static void main(String[] args) {
        String[] chosen = {
            "ExEy:5xy-5x+5y+5<0&5xy+5x-5y+5<0", "AxAy:5xy+5x+5y-5=0|5xy-5x-5y-5=0|xy=0",
            "ExAy:5xy+4x-3y-5=0|4xy-5x+5y+4>0|3xy+5x+4y-5<0|5xy-4x+5y+3=0|xy<2&x=y",
            "AxEy:y=x&y=-x&y=1&y=-1&xy=1&xy=-1&y=0&x=0", "ExEy:xy=2|y=x|xy=3|y=2x|xy=5|y=5x|xy=1|y=4",
            "ExEy:5xy=4|5y=4x|4xy=5|4y=5x|3xy=5|3y=5x|5xy=3|5y=3x",
            "ExEy:4xy+x=5|xy-5x=3y|2y-4=x+xy|3xy=x+4|5y-x=2xy|xy-4=5y|3y=x-5",
        };
        for (String each : chosen) {
            check(each);
        }
        for (int n = 0; n < 700; n++) {
            String sentence = sentence(1 + below(8));
            check(sentence);
            check(changed(sentence));
            check(changed(changed(sentence)));
        }
        for (int n = 0; n < 60; n++) {
            check(dense());
        }
        CHECKS.end();
    }

    private static int below(int bound) {
        seed = seed * 6364136223846793005L + 1442695040888963407L;
        return (int) ((seed >>> 33) % bound);
    }

    // Making texts

    private static String sentence(int atoms) {
        String head = (below(2) == 0 ? "E" : "A") + "x" + (below(2) == 0 ? "E" : "A") + "y:";
        String made = head + formula(atoms, 3);
        for (int tries = 0; made.length() > 80 && tries < 1000; tries++) {
            made = head + formula(1 + below(atoms), 3);
        }
        for (int blanks = below(4); blanks > 0 && made.length() < 80; blanks--) {
            int i = below(made.length() + 1);
            made = made.substring(0, i) + " " + made.substring(i);
        }
        return made.length() > 80 ? head + "0<1" : made;
    }

    private static String formula(int atoms, int depth) {
        String before = below(4) == 0 ? "~" : "";
        if (atoms == 1) {
            return before + sum(1 + below(3)) + "<=>".charAt(below(3)) + sum(1 + below(2));
        }
        int left = 1 + below(atoms - 1);
        String both = formula(left, depth - 1) + "&|".charAt(below(2)) + formula(atoms - left, depth - 1);
        return depth > 0 && below(3) == 0 ? before + "(" + both + ")" : both;
    }

    private static String sum(int terms) {
        StringBuilder made = new StringBuilder(below(4) == 0 ? "-" : "");
        for (int t = 0; t < terms; t++) {
            made.append(t == 0 ? "" : below(2) == 0 ? "+" : "-");
            int letters = below(5);
            if (letters == 0 || below(2) == 0) {
                made.append(below(20) == 0 ? below(10) : below(5));
            }
            made.append(new String[] {"", "x", "y", "xy", "yx"}[letters]);
        }
        return made.toString();
    }

    /** Five polynomials without a small number: most critical numbers are irrational. */
    private static String dense() {
        StringBuilder made = new StringBuilder(below(2) == 0 ? "ExEy:" : "AxEy:");
        for (int p = 0; p < 5; p++) {
            made.append(p == 0 ? "" : below(2) == 0 ? "&" : "|");
            made.append(1 + below(5)).append("xy").append("+-".charAt(below(2)));
            made.append(1 + below(5)).append("x").append("+-".charAt(below(2)));
            made.append(1 + below(5)).append("y").append("<=>".charAt(below(3))).append(1 + below(5));
        }
        return made.toString();
    }

    private static String changed(String from) {
        if (from.isEmpty()) {
            return "?";
        }
        int i = below(from.length());
        int way = below(4);
        String c = String.valueOf(WRITTEN.charAt(below(WRITTEN.length())));
        if (way == 0) {
            return from.substring(0, i);
        }
        if (way == 1 || from.length() >= 80) {
            return from.substring(0, i) + c + from.substring(i + 1);
        }
        return way == 2 ? from.substring(0, i) + c + from.substring(i) : from.substring(0, i) + from.substring(i + 1);
    }

    // Checking

    private static PlaneCells plane() {
        if (asked == QUESTIONS) {
            plane = Checks.decided(text);
            asked = 0;
        }
        asked++;
        return plane;
    }

    private static void due(String call, int got, int want) {
        CHECKS.due(text + ": " + call, got, want);
    }

    private static void check(String made) {
        text = made.isEmpty() ? " " : made;
        Reckoner right = new Reckoner(text);
        plane = new PlaneCells();
        asked = 0;
        due("decide()", Checks.decide(plane, text), right.verdict);
        due("place()", plane().place(), right.place);
        due("polynomials()", plane().polynomials(), right.polynomials.size());
        due("columns()", plane().columns(), right.columns.size());
        due("witness()", plane().witness(), right.witness());
        for (int p = 0; p < right.polynomials.size(); p++) {
            for (int k = 0; k < 4; k++) {
                due("coefficient(" + p + ", " + k + ")", plane().coefficient(p, k), right.polynomials.get(p)[k]);
            }
        }
        for (int i = 0; i < right.columns.size(); i++) {
            checkColumn(right, i);
        }
        for (int k = 0; k < right.critical.size(); k++) {
            checkCritical(right, k);
        }
    }

    private static void checkColumn(Reckoner right, int i) {
        int cells = right.columns.get(i).size();
        due("cells(" + i + ")", plane().cells(i), cells);
        due("holds(" + i + ")", plane().holds(i), right.holds(i) ? 1 : 0);
        for (int j = 0; j < cells; j++) {
            due("truth(" + i + ", " + j + ")", plane().truth(i, j), right.truth(i, j) ? 1 : 0);
            for (int p = 0; p < right.polynomials.size(); p++) {
                int want = right.columns.get(i).get(j)[p];
                due("sign(" + i + ", " + j + ", " + p + ")", plane().sign(i, j, p), want);
            }
        }
    }

    /** With the farthest numbers there are, and with those next to it. */
    private static void checkCritical(Reckoner right, int k) {
        int[] bottoms = {1, 2, 7, 10, 97, 99, 100};
        for (int d : bottoms) {
            BigDecimal times = right.critical.get(k).multiply(new BigDecimal(d));
            int n = times.setScale(0, RoundingMode.HALF_EVEN).intValue();
            int[] tops = {-1000, n - 1, n, n + 1, 1000};
            for (int top : tops) {
                if (Math.abs(top) <= 1000) {
                    int want = right.compare(k, top, d);
                    due("compare(" + (2 * k + 1) + ", " + top + ", " + d + ")", plane().compare(2 * k + 1, top, d), want);
                }
            }
        }
    }
}
