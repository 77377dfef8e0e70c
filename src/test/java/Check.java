/** Counts the answers of a test and tells those that are not due. */
final class Check {
    private static int wrong = 0;
    private static int asked = 0;

    private Check() {
    }

    static void due(String what, long got, long want) {
        asked++;
        if (got != want) {
            wrong++;
            System.out.println(what + " answered " + got + ", due is " + want);
        }
    }

    static void holds(String what, boolean good) {
        asked++;
        if (!good) {
            wrong++;
            System.out.println(what + " does not hold");
        }
    }

    /** Feeds a text to THE TAPE. */
    static void type(TwoSeas sea, String text) {
        for (int i = 0; i < text.length(); i++) {
            sea.feed(text.charAt(i), 1);
        }
    }

    /** Types an order for a factory and answers what order() does. */
    static int write(TwoSeas sea, int factory, String text) {
        type(sea, text);
        return sea.order(factory);
    }

    /**
     * A new object whose factory 1 is 20 days off both ways and has coins, with a ship 0 of 60 tons that
     * came there on day 20 with the order, if there is one (paper 0).
     */
    static TwoSeas atFactory(int coins, String order) {
        TwoSeas sea = new TwoSeas();
        sea.factory(1, 0, 20);
        sea.factory(1, 1, 20);
        sea.bullion(1, coins);
        sea.ship(0, 60);
        sea.take();
        if (order != null) {
            due("order " + order, write(sea, 1, order), 0);
            sea.copy(0, 0);
        }
        sea.sail(0, 1);
        sea.days(20);
        return sea;
    }

    static void end() {
        System.out.println(asked + " answers, " + wrong + " of them wrong");
        if (wrong != 0) {
            System.exit(1);
        }
    }
}
