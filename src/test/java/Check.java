/** Counts the answers of a test and tells those that are not due. */
final class Check {
    private static int wrong = 0;
    private static int asked = 0;

    private Check() {
    }

    static void due(String what, long got, long want) {
        asked++;
        if (got != want) {
            wrong++;
            System.out.println(what + " answered " + got + ", due is " + want);
        }
    }

    static void holds(String what, boolean good) {
        asked++;
        if (!good) {
            wrong++;
            System.out.println(what + " does not hold");
        }
    }

    /** Feeds a text to THE TAPE. */
    static void type(TwoSeas sea, String text) {
        for (int i = 0; i < text.length(); i++) {
            due("feed of " + text.charAt(i), sea.feed(text.charAt(i), 1), sea.count(6) + 0L);
        }
    }

    /** Writes an order for a factory and answers what order() does. */
    static int write(TwoSeas sea, int factory, String text) {
        for (int i = 0; i < text.length(); i++) {
            sea.feed(text.charAt(i), 1);
        }
        return sea.order(factory);
    }

    static void end() {
        System.out.println(asked + " answers, " + wrong + " of them wrong");
        if (wrong != 0) {
            System.exit(1);
        }
    }
}
