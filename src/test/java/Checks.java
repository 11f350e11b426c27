/** Counts the answers that are not as due; the tests share it. */
final class Checks {
    private final String name;
    private int made;
    private int wrong;

    Checks(String name) {
        this.name = name;
    }

    void due(String what, long got, long want) {
        made++;
        if (got != want) {
            wrong++;
            System.out.println(what + " answered " + got + ", due is " + want);
        }
    }

    void due(String what, boolean got, boolean want) {
        due(what, got ? 1 : 0, want ? 1 : 0);
    }

    /** Ends the program with exit code 1 if one answer was wrong. */
    void end() {
        System.out.println(name + ": " + made + " checks, " + wrong + " wrong");
        if (wrong != 0 || made == 0) {
            System.exit(1);
        }
    }

    /** Writes the text; true if every character was taken. */
    static boolean write(PlaneCells plane, String text) {
        boolean taken = true;
        for (int i = 0; i < text.length(); i++) {
            taken &= plane.write(text.charAt(i));
        }
        return taken;
    }

    static int decide(PlaneCells plane, String text) {
        if (!write(plane, text)) {
            throw new IllegalArgumentException("a test's text was not taken: " + text);
        }
        return plane.decide();
    }

    static PlaneCells decided(String text) {
        PlaneCells plane = new PlaneCells();
        decide(plane, text);
        return plane;
    }
}
