/** Counts the answers that are not the ones that are due, and ends a test by them. */
final class Due {
    private static int wrong = 0;
    private static int asked = 0;

    private Due() {
    }

    static void due(String call, long got, long want) {
        asked++;
        if (got != want) {
            wrong++;
            if (wrong <= 40) {
                System.out.println(call + " answered " + got + ", due is " + want);
            }
        }
    }

    static void holds(String what, boolean so) {
        due(what, so ? 1 : 0, 1);
    }

    /** Types a text and takes it as a rock. */
    static int rock(ErasingMonks x, String text) {
        for (int i = 0; i < text.length(); i++) {
            due("type of '" + text + "' at " + i, x.type(text.charAt(i)), i + 1);
        }
        return x.rock();
    }

    /** A new object with a rock that has no fault. */
    static ErasingMonks on(String text) {
        ErasingMonks x = new ErasingMonks();
        holds("rock '" + text + "' stands", rock(x, text) > 0);
        return x;
    }

    static void end() {
        System.out.println(asked + " answers, " + wrong + " wrong");
        if (wrong != 0) {
            System.exit(1);
        }
    }
}
