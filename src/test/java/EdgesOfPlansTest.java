/** The edges of promises 42 to 44 and of the terms behind them, a sentence of the document each. */
public final class EdgesOfPlansTest {
    private static final int NONE_SUCH = -1000000000;

    public static void main(String[] args) {
        heardNumbers();
        heardFromWhichDay();
        heardLatest();
        heardOfOneDay();
        heardByFirstAndLastPaper();
        noReports();
        years();
        planNumbers();
        tons();
        coins();
        lots();
        worstYear();
        firstOfSeveral();
        Check.end();
    }

    private static void heardNumbers() {
        Script.edge("42: -5: no such FACTORY, SORT, DAY (0 on)", """
                heard(1, 0, 0) -> -1
                heard(4, 3, 0) -> -1
                heard(0, 0, 0) -> -5
                heard(5, 0, 0) -> -5
                heard(-1, 0, 0) -> -5
                heard(1, 4, 0) -> -5
                heard(1, -1, 0) -> -5
                heard(1, 0, -1) -> -5
                heard(1, 0, -2147483648) -> -5
                heard(1, 0, 2999) -> -1
                heard(1, 0, 3000) -> -1
                heard(1, 0, 2147483647) -> -1
                heard(2147483647, 0, 0) -> -5
                """);
    }

    private static void heardFromWhichDay() {
        Script.edge("42: KNOWN at the HOUSE from that DAY or an earlier one on",
                Script.atFactory(1000, "buy 0 2;buy 1 1;lade 1 1;sail 2"), """
                letter(1, 0) -> 1
                copy(1, 0) -> 1
                stock(1, 0) -> 2
                days(1) -> 21
                stock(1, 0) -> 4
                days(19) -> 40
                heard(1, 0, 40) -> -1
                heard(1, 0, 2999) -> -1
                days(1) -> 41
                heard(1, 0, 41) -> 2
                heard(1, 0, 40) -> -1
                heard(1, 0, 42) -> 2
                heard(1, 0, 0) -> -1
                heard(1, 0, 2147483647) -> 2
                heard(1, 1, 41) -> 0
                heard(2, 0, 41) -> -1
                """);
    }

    /** Ship 0 is slow with the early report, ship 1 fast with the late one. */
    private static void heardLatest() {
        Script.edge("42: the REPORT WRITTEN there latest of those KNOWN, not the one that came latest", """
                factory(1, 0, 20)
                factory(1, 1, 100)
                bullion(1, 10000)
                ship(0, 1)
                ship(0, 1)
                2 times take()
                type buy 0 2;buy 3 1;lade 3 1;sail 1 if not day=20
                order(1)
                copy(0, 0)
                sail(0, 1)
                sail(1, 1)
                days(20)
                letter(1, 0) -> 1
                copy(1, 0)
                days(1)
                shipOf(0, 1) -> 121
                factory(1, 1, 20)
                letter(1, 0) -> 3
                copy(3, 1)
                days(1)
                shipOf(1, 1) -> 42
                days(99) -> 121
                known(1, 0) -> 121
                known(3, 0) -> 42
                heard(1, 0, 41) -> -1
                heard(1, 0, 42) -> 4
                heard(1, 0, 120) -> 4
                heard(1, 0, 121) -> 4
                """);
        Script.edge("42: from the DAY on which a later one is KNOWN, that one",
                Script.atFactory(9999, "buy 0 2;lade 0 1;sail 1 if day=21 or day=45"), """
                letter(1, 0) -> 1
                copy(1, 0)
                days(1) -> 21
                ship(0, 1)
                take() -> 1
                sail(1, 1)
                days(20) -> 41
                # 22 days bought two each, and one was laded on three of them
                stock(1, 0) -> 41
                letter(1, 0) -> 3
                copy(3, 1)
                days(24) -> 65
                heard(1, 0, 40) -> -1
                heard(1, 0, 41) -> 1
                heard(1, 0, 64) -> 1
                heard(1, 0, 65) -> 41
                """);
    }

    private static void heardOfOneDay() {
        Script.edge("42: of one DAY the greatest number", "bullion(1, 1000)\nperson(1, 0)",
                Script.atFactory(0, "buy 1 1;lade 1 1;sail 1 if day=21"), """
                letter(1, 0) -> 1
                council(1, 0, 3, 1, 0) -> 60
                letter(1, 0) -> 3
                copy(3, 0)
                copy(1, 0)
                days(21) -> 41
                heard(1, 0, 41) -> 3
                """);
        Script.edge("42: of one DAY the greatest number of those KNOWN", "bullion(1, 1000)\nperson(1, 0)",
                Script.atFactory(0, "buy 1 1;lade 1 1;sail 1 if day=21"), """
                letter(1, 0) -> 1
                council(1, 0, 3, 1, 0) -> 60
                letter(1, 0) -> 3
                copy(1, 0)
                days(21) -> 41
                heard(1, 0, 41) -> 0
                """);
    }

    private static void heardByFirstAndLastPaper() {
        Script.edge("42: the REPORT is PAPER 0", "letter(1, 0) -> 0",
                Script.atFactory(1000, "buy 0 2;lade 0 1;sail 1 if day=21", 1), """
                copy(0, 0)
                days(20)
                heard(1, 0, 41) -> -1
                days(1)
                heard(1, 0, 41) -> 0
                """);
        Script.edge("42: the REPORT is PAPER 149", Script.atFactory(1000, "buy 0 2;lade 0 1;sail 1 if day=21"), """
                148 times letter(1, 2) -> 148
                letter(1, 0) -> 149
                copy(149, 0)
                days(21)
                heard(1, 0, 41) -> 1
                """);
    }

    /** Of a FACTORY for the HOUSE: no other LETTER, and nothing under LETTER, is a REPORT. */
    private static void noReports() {
        Script.edge("42: -1 none: what is no REPORT", "bullion(1, 1000)\nperson(1, 0)",
                Script.atFactory(0, "draw 9999;buy 0 3;lade 0 1;sail 1 if day=21"), """
                council(1, 0, 1, 1, 0) -> 20
                letter(1, 2) -> 3
                letter(2, 0) -> 4
                copy(1, 0)
                copy(2, 0)
                days(21)
                known(1, 0) -> 41
                known(2, 0) -> 41
                known(5, 0) -> 41
                heard(1, 0, 41) -> -1
                heard(2, 0, 41) -> -1
                """);
    }

    private static void years() {
        Script.edge("43: YEARS 0 .. 3; NONE", """
                year(0, 0, 1) -> 0
                year(3, 3, 1) -> 0
                year(4, 0, 1) -> -1
                year(-1, 0, 1) -> -1
                year(0, 4, 1) -> -1
                year(0, -1, 1) -> -1
                year(4, 0, 1000) -> -1
                year(0, 4, -1) -> -1
                year(2147483647, 0, 1) -> -1
                year(0, 0, 1) -> 1
                """);
        Script.edge("43: what a BALE would bring (0 .. 999; 0 at first); BAD", """
                year(0, 0, 999) -> 0
                year(0, 0, 1000) -> -2
                year(0, 0, -1) -> -2
                year(0, 0, 2147483647) -> -2
                year(0, 0, -2147483648) -> -2
                year(0, 0, 0) -> 999
                year(0, 0, 5) -> 0
                """);
    }

    private static void planNumbers() {
        Script.edge("44: TONS (0 .. 200), coins (0 .. 1000000), what 0 .. 4; none such, beyond", """
                plan(1, 0, 0, 0) -> 0
                plan(4, 200, 1000000, 4) -> 0
                plan(0, 1, 1, 0) -> -1000000000
                plan(5, 1, 1, 0) -> -1000000000
                plan(-1, 1, 1, 0) -> -1000000000
                plan(1, 201, 1, 0) -> -1000000000
                plan(1, -1, 1, 0) -> -1000000000
                plan(1, 1, 1000001, 0) -> -1000000000
                plan(1, 1, -1, 0) -> -1000000000
                plan(1, 1, 1, 5) -> -1000000000
                plan(1, 1, 1, -1) -> -1000000000
                plan(1, 2147483647, 1, 0) -> -1000000000
                plan(1, 1, 2147483647, 0) -> -1000000000
                plan(1, -2147483648, 1, 0) -> -1000000000
                """);
        Check.due("44: the number of none such", NONE_SUCH, -1000000000);
    }

    /** What a BALE brings in each YEAR, by sorts. */
    private static String brings(int... bySort) {
        StringBuilder rows = new StringBuilder();
        for (int year = 0; year < 4; year++) {
            for (int sort = 0; sort < 4; sort++) {
                rows.append("year(").append(year).append(", ").append(sort).append(", ").append(bySort[sort]).append(")\n");
            }
        }
        return rows.toString();
    }

    private static String plan(int tons, int coins, int... due) {
        StringBuilder rows = new StringBuilder();
        for (int what = 0; what < due.length; what++) {
            rows.append("plan(1, ").append(tons).append(", ").append(coins).append(", ").append(what).append(") -> ")
                    .append(due[what]).append('\n');
        }
        return rows.toString();
    }

    private static void tons() {
        Script.edge("44: no more BALES together than TONS told", brings(25, 25, 25, 25), plan(0, 1000000, 0, 0, 0, 0, 0),
                plan(9, 1000000, 0, 0, 0, 0, 0), plan(10, 1000000, 50, 0, 0, 0, 1), plan(19, 1000000, 50, 0, 0, 0, 1),
                plan(20, 1000000, 100, 0, 0, 0, 2), plan(199, 1000000, 950, 4, 5, 5, 5), plan(200, 1000000, 1000, 5, 5, 5, 5));
    }

    private static void coins() {
        Script.edge("44: no more coins than told", brings(25, 25, 25, 25), plan(200, 0, 0, 0, 0, 0, 0),
                plan(200, 199, 0, 0, 0, 0, 0), plan(200, 200, 50, 0, 0, 0, 1), plan(200, 399, 50, 0, 0, 0, 1),
                plan(200, 400, 100, 0, 0, 0, 2), plan(200, 3999, 950, 4, 5, 5, 5), plan(200, 4000, 1000, 5, 5, 5, 5));
        Script.edge("44: the most that can be told", brings(999, 999, 999, 999), """
                base(1, 0, 1)
                base(1, 1, 1)
                base(1, 2, 1)
                base(1, 3, 1)
                plan(1, 200, 1000000, 0) -> 199600
                plan(1, 200, 199, 0) -> 189620
                """);
        Script.edge("44: by BASES at a FACTORY, each its own", brings(25, 25, 25, 25), """
                base(2, 0, 24)
                plan(2, 10, 1000, 0) -> 50
                plan(2, 10, 1000, 1) -> 0
                base(2, 3, 26)
                base(2, 2, 26)
                base(2, 1, 26)
                plan(2, 10, 1000, 0) -> 10
                plan(2, 10, 1000, 1) -> 1
                plan(1, 10, 1000, 0) -> 50
                """);
    }

    private static void lots() {
        Script.edge("44: lots of ten BALES of each SORT (0 .. 5)", brings(25, 20, 20, 20), """
                plan(1, 200, 1000000, 0) -> 250
                plan(1, 200, 1000000, 1) -> 5
                plan(1, 200, 1000000, 2) -> 0
                plan(1, 50, 1000000, 1) -> 5
                plan(1, 49, 1000000, 1) -> 4
                """);
        for (int sort = 0; sort < 4; sort++) {
            int[] bySort = {20, 20, 20, 20};
            bySort[sort] = 25;
            int[] due = {50, 0, 0, 0, 0};
            due[1 + sort] = 1;
            Script.edge("44: of each SORT: what " + sort + " brings", brings(bySort), plan(10, 1000, due));
            due[0] = 10;
            Script.edge("44: of each SORT: what " + sort + " costs", brings(20, 20, 20, 20),
                    "base(1, " + sort + ", 19)\n", plan(10, 1000, due), "base(1, " + sort + ", 21)\n",
                    plan(200, 1000000, 0, 0, 0, 0, 0));
        }
        Script.edge("44: by BASE, not by PRICE: HEAT does not matter", brings(21, 0, 0, 0), """
                person(1, 0)
                bullion(1, 1000)
                council(1, 0, 10, 1, 0) -> 205
                price(1, 0) -> 22
                plan(1, 10, 200, 0) -> 10
                """);
    }

    private static void worstYear() {
        Script.edge("44: what the year that is least brings, less coins", brings(30, 0, 0, 0), """
                year(3, 0, 21) -> 30
                plan(1, 10, 1000, 0) -> 10
                year(0, 0, 20) -> 30
                plan(1, 10, 1000, 0) -> 0
                plan(1, 10, 1000, 1) -> 0
                year(0, 0, 19) -> 20
                plan(1, 200, 1000000, 0) -> 0
                """);
        Script.edge("44: one SORT makes up for another in its bad year", """
                base(1, 0, 10)
                base(1, 1, 10)
                year(0, 0, 30)
                year(1, 0, 0)
                year(2, 0, 15)
                year(3, 0, 15)
                year(0, 1, 0)
                year(1, 1, 30)
                year(2, 1, 15)
                year(3, 1, 15)
                plan(1, 10, 1000, 0) -> 0
                plan(1, 20, 1000, 0) -> 100
                plan(1, 20, 1000, 1) -> 1
                plan(1, 20, 1000, 2) -> 1
                plan(1, 30, 1000, 0) -> 100
                plan(1, 30, 1000, 1) -> 1
                plan(1, 30, 1000, 2) -> 1
                """);
    }

    private static void firstOfSeveral() {
        Script.edge("44: of several the first: lots of SORT 0 the fewest, then of SORT 1, and so on",
                brings(25, 25, 25, 25), plan(10, 1000, 50, 0, 0, 0, 1), plan(60, 9999, 300, 0, 0, 1, 5),
                plan(110, 9999, 550, 0, 1, 5, 5), plan(160, 9999, 800, 1, 5, 5, 5));
        Script.edge("44: of several the first: nothing, if nothing is as good", brings(20, 20, 20, 20),
                plan(200, 1000000, 0, 0, 0, 0, 0));
    }
}
