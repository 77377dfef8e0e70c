/** The edges of promises 45 to 51 and of the terms behind them, a sentence of the document each. */
public final class EdgesOfSheetsTest {
    public static void main(String[] args) {
        acts();
        wrapping();
        noActs();
        traces();
        bodies();
        kinds();
        counts();
        countsOfWhatWas();
        sheets();
        sheetsAnew();
        cells();
        lowestBits();
        carrying();
        carriedAsTheyWere();
        Check.end();
    }

    private static void acts() {
        Script.edge("45: act 0 .. 2; no such PAPER, act", """
                act(0, 0, 5) -> 0
                letter(0, 1) -> 0
                letter(0, 1) -> 1
                act(1, 0, 5) -> 6
                act(1, 1, 5) -> 11
                act(1, 2, 5) -> 13
                act(1, 3, 5) -> 0
                act(1, -1, 5) -> 0
                act(2, 0, 5) -> 0
                act(-1, 0, 5) -> 0
                act(2147483647, 0, 5) -> 0
                act(1, -2147483648, 5) -> 0
                """);
        Script.edge("45: the last PAPER, on the last DAY", """
                14 times days(200)
                days(199) -> 2999
                150 times letter(0, 1) -> 149
                act(149, 0, 0) -> 149
                # 149 + 149 less 149, ^ 2999 + 149
                act(149, 2, 0) -> 3289
                act(150, 0, 0) -> 0
                """);
    }

    private static void wrapping() {
        Script.edge("45: with x (wrapping)", """
                letter(0, 1) -> 0
                letter(0, 1) -> 1
                act(1, 0, 2147483647) -> -2147483648
                act(1, 0, -2147483648) -> -2147483647
                # (2147483647 + 1) * 2 is 0, less 1
                act(1, 1, 2147483647) -> -1
                act(1, 1, 1073741823) -> 2147483647
                # (-2147483648 + 1) * 2 is 2, less 1
                act(1, 1, -2147483648) -> 1
                # -1 ^ -2147483648
                act(1, 2, 2147483647) -> 2147483647
                type keep 1
                order(1) -> 2
                # (1073741822 + 2) * 3
                act(2, 0, 1073741822) -> -1073741824
                act(2, 0, 2147483647) -> -2147483645
                """);
        Script.edge("45: wrapping, of a CONSULT and a DISSENT", "2 times person(1, 5)\ndays(7)\ncouncil(1, 0, 1, 1, 2) -> 0\n", """
                paper(0, 0) -> 3
                paper(1, 0) -> 6
                # x - 1 is 2147483647: 2147483647 * 2 is -2, ^ 2147483647 + 7 wrapped
                act(0, 2, -2147483648) -> 2147483640
                # -2147483648 + 1 - 7
                act(1, 0, -2147483648) -> 2147483642
                """);
    }

    private static void noActs() {
        Script.edge("45: 0, and no TRACE then: no such PAPER", """
                letter(0, 1) -> 0
                act(0, 2, 9) -> 27
                count(10) -> 5
                trace(0) -> 12
                act(1, 2, 9) -> 0
                count(10) -> 0
                trace(0) -> -1
                """);
        Script.edge("45: 0, and no TRACE then: no such act", """
                letter(0, 1) -> 0
                act(0, 1, 9) -> 18
                count(10) -> 3
                act(0, 3, 9) -> 0
                count(10) -> 0
                trace(0) -> -1
                act(0, 0, 9) -> 9
                trace(0) -> 10
                act(0, -1, 9) -> 0
                trace(0) -> -1
                """);
    }

    private static void traces() {
        Script.edge("46: NONE: none such", """
                trace(0) -> -1
                letter(0, 1) -> 0
                act(0, 2, 1) -> 3
                trace(-1) -> -1
                trace(0) -> 12
                trace(4) -> 10
                trace(5) -> -1
                trace(19) -> -1
                trace(20) -> -1
                trace(2147483647) -> -1
                trace(-2147483648) -> -1
                """);
        Script.edge("46: in the latest act()", """
                letter(0, 1) -> 0
                act(0, 2, 1) -> 3
                act(0, 0, 1) -> 1
                trace(0) -> 10
                trace(1) -> -1
                count(10) -> 1
                # questions and other calls leave it
                days(1)
                letter(0, 1)
                trace(0) -> 10
                """);
        Script.edge("46: in the order in which they began, the most there are", Script.atFactory(0, "draw 5"), """
                # ((1 * 2 - 1 ^ 9 ^ 20 + 1) + 1) * 2
                act(1, 2, 0) -> 60
                trace(0) -> 61
                trace(1) -> 50
                trace(2) -> 12
                trace(3) -> 60
                trace(4) -> 20
                trace(5) -> 11
                trace(6) -> 10
                trace(7) -> 10
                trace(8) -> -1
                count(10) -> 8
                """);
    }

    /** The body of the PAPER's KIND, or of the next KIND above that has one: of each KIND, with d 20 and x 1000. */
    private static void bodies() {
        String papers = "person(1, 3)\nperson(1, 2)\n" + Script.atFactory(20, "draw 77;buy 0 1;lade 0 1;sail 1")
                + "letter(1, 0) -> 3\ncouncil(1, 0, 1, 1, 2)\n";
        int[][][] due = {
            // ORDER 0, BILL 1, INVOICE 2, LETTER 3, CONSULT 4, DISSENT 5: binds, travels, owes, each with its bodies
            {{3000, 30, 10}, {6000, 20, 11, 30, 10}, {6000 ^ 3000, 12, 20, 11, 30, 10, 30, 10}},
            {{1001, 10}, {2001 ^ 9, 60, 20, 11, 10}, {((2001 ^ 9 ^ 1021) + 1) * 2, 61, 50, 12, 60, 20, 11, 10, 10}},
            {{1002, 10}, {2002, 20, 11, 10}, {(2002 ^ 1022) + 2, 50, 12, 20, 11, 10, 10}},
            {{1003, 10}, {2003, 20, 11, 10}, {2003 ^ 1023, 12, 20, 11, 10, 10}},
            {{1004, 10}, {2004, 20, 11, 10}, {2002 ^ 1023, 40, 12, 20, 11, 10, 10}},
            {{985, 70, 10}, {1965, 20, 11, 70, 10}, {1963 ^ 1004, 40, 12, 20, 11, 70, 10, 70, 10}},
        };
        for (int paper = 0; paper < due.length; paper++) {
            for (int act = 0; act < 3; act++) {
                int[] row = due[paper][act];
                StringBuilder rows = new StringBuilder("act(" + paper + ", " + act + ", 1000) -> " + row[0] + "\n");
                for (int i = 1; i < row.length; i++) {
                    rows.append("trace(").append(i - 1).append(") -> ").append(row[i]).append('\n');
                }
                rows.append("trace(").append(row.length - 1).append(") -> -1\ncount(10) -> ").append(row.length - 1);
                Script.edge("45, 46: act " + act + " of PAPER " + paper, papers, rows.toString());
            }
        }
    }

    private static void kinds() {
        Script.edge("47: KIND k (0 .. 6). BAD: k; -11: no such PAPER; -13", """
                taken(0, 0) -> -11
                taken(0, 7) -> -2
                taken(0, -1) -> -2
                letter(0, 1) -> 0
                taken(0, 0) -> 1
                taken(0, 1) -> 1
                taken(0, 2) -> -13
                taken(0, 6) -> -13
                taken(0, 7) -> -2
                taken(0, -1) -> -2
                taken(1, 6) -> -11
                taken(-1, 0) -> -11
                taken(1, 7) -> -2
                taken(2147483647, 0) -> -11
                taken(0, 2147483647) -> -2
                taken(0, -2147483648) -> -2
                """);
        Script.edge("47: or one under that (also by others between)", "person(1, 1)\nperson(1, 0)\n",
                Script.atFactory(20, "draw 30;buy 0 1;lade 0 1;sail 1"), """
                council(1, 0, 1, 1, 2)
                # a BILL is under INVOICE, LETTER, PAPER
                taken(1, 5) -> 5
                taken(1, 4) -> 5
                taken(1, 1) -> 5
                taken(1, 0) -> 5
                taken(1, 2) -> -13
                taken(1, 3) -> -13
                taken(1, 6) -> -13
                # an INVOICE is no BILL
                taken(2, 4) -> 4
                taken(2, 5) -> -13
                # a CONSULT is no DISSENT, a DISSENT is a CONSULT
                taken(3, 3) -> 3
                taken(3, 6) -> -13
                taken(4, 6) -> 6
                taken(4, 3) -> 6
                taken(4, 1) -> 6
                taken(4, 0) -> 6
                taken(4, 2) -> -13
                taken(4, 4) -> -13
                taken(4, 5) -> -13
                # an ORDER
                taken(0, 2) -> 2
                taken(0, 1) -> 2
                taken(0, 0) -> 2
                taken(0, 3) -> -13
                """);
    }

    private static void counts() {
        Script.edge("48: what 0 .. 10. BAD", """
                count(0) -> 0
                count(10) -> 0
                count(11) -> -2
                count(-1) -> -2
                count(2147483647) -> -2
                count(-2147483648) -> -2
                """);
    }

    private static void countsOfWhatWas() {
        Script.edge("48: 7 SHIPS AT SEA: neither those at a PLACE nor those GONE", """
                factory(1, 0, 20)
                3 times ship(0, 5)
                2 times take()
                count(7) -> 0
                sail(0, 1) -> 0
                sail(1, 1) -> 1
                count(7) -> 2
                lose(0) -> 1
                count(7) -> 2
                days(20)
                count(7) -> 0
                count(2) -> 3
                count(3) -> 2
                """);
        Script.edge("48: 6 bytes of THE TAPE", """
                feed(0, 3) -> 3
                count(6) -> 3
                order(1) -> -10
                count(6) -> 0
                """);
    }

    private static void sheets() {
        Script.edge("49: SHEETS 0 .. 2, of sort 0 .. 2 or -1; BAD: no such SHEET, sort", """
                sheet(0, 0, 1) -> 1
                sheet(2, 2, 1) -> 1
                sheet(3, 0, 1) -> -2
                sheet(-1, 0, 1) -> -2
                sheet(0, 3, 1) -> -2
                sheet(0, -2, 1) -> -2
                sheet(0, 3, -1) -> -2
                sheet(3, 0, -1) -> -2
                sheet(3, -1, 0) -> -2
                sheet(-2147483648, 0, 1) -> -2
                sheet(0, 2147483647, 1) -> -2
                sheet(0, -1, 1) -> 1
                """);
        Script.edge("49: BAD: n above 64; -14: n below 0", """
                sheet(0, 0, 64) -> 1
                cell(0, 63, 1) -> 1
                cell(0, 64, 1) -> -12
                sheet(0, 0, 65) -> -2
                sheet(0, 0, -1) -> -14
                sheet(0, 1, 2147483647) -> -2
                sheet(0, 1, -2147483648) -> -14
                cell(0, 63, 1) -> 1
                sheet(1, 2, 65) -> -2
                sheet(1, 2, -1) -> -14
                cell(1, 0, 0) -> -11
                sheet(0, 0, 0) -> 1
                cell(0, 0, 1) -> -12
                """);
        Script.edge("49: or missing (sort -1: n does not matter)", """
                sheet(0, 0, 3) -> 1
                sheet(0, -1, -1) -> 1
                cell(0, 0, 1) -> -11
                sheet(0, 0, 3) -> 1
                sheet(0, -1, 65) -> 1
                cell(0, 0, 1) -> -11
                sheet(0, -1, 2147483647) -> 1
                sheet(0, -1, -2147483648) -> 1
                sheet(0, -1, 3) -> 1
                cell(0, 0, 1) -> -11
                """);
    }

    /** An item that is a digit makes an order of "keep ", one that is 0 makes none. */
    private static void sheetsAnew() {
        Script.edge("49: a SHEET becomes a row of n of a sort, all 0", """
                sheet(0, 0, 2) -> 1
                cell(0, 0, 55) -> 1
                cell(0, 1, 55) -> 1
                type keep
                feed(32, 1)
                mail(0, 0, 1, 1) -> 6
                order(1) -> 0
                sheet(0, 0, 2) -> 1
                type keep
                feed(32, 1)
                mail(0, 0, 1, 1) -> 6
                order(1) -> -15
                cell(0, 1, 55) -> 1
                sheet(0, -1, 0) -> 1
                sheet(0, 0, 2) -> 1
                type keep
                feed(32, 1)
                mail(0, 0, 1, 1) -> 6
                order(1) -> -15
                """);
        Script.edge("49: a shorter one has no more than told", """
                sheet(0, 2, 5) -> 1
                cell(0, 4, 55) -> 1
                sheet(0, 2, 4) -> 1
                cell(0, 4, 55) -> -12
                sheet(0, 2, 5) -> 1
                type keep
                feed(32, 1)
                mail(0, 2, 4, 1) -> 6
                order(1) -> -15
                """);
    }

    private static void cells() {
        Script.edge("50: BAD: no such SHEET; -11: it is missing; -12: no such item", """
                cell(0, 0, 1) -> -11
                cell(0, -1, 1) -> -11
                cell(3, 0, 1) -> -2
                cell(-1, 0, 1) -> -2
                sheet(0, 0, 3) -> 1
                cell(0, 0, 1) -> 1
                cell(0, 2, 1) -> 1
                cell(0, 3, 1) -> -12
                cell(0, -1, 1) -> -12
                cell(0, 2147483647, 1) -> -12
                cell(0, -2147483648, 1) -> -12
                cell(1, 0, 1) -> -11
                cell(2147483647, 0, 1) -> -2
                sheet(2, 0, 0) -> 1
                cell(2, 0, 1) -> -12
                """);
    }

    private static void lowestBits() {
        Script.edge("50: of bytes its lowest 8 bits, of shorts its lowest 16, of ints all", """
                # 0x139 and 0x10139 and -199 are 9 by their lowest 8 bits
                sheet(0, 0, 3) -> 1
                cell(0, 0, 313) -> 1
                cell(0, 1, 65849) -> 1
                cell(0, 2, -199) -> 1
                type keep
                feed(32, 1)
                mail(0, 0, 0, 3) -> 8
                order(1) -> 0
                sheet(1, 1, 3) -> 1
                cell(1, 0, 313) -> 1
                cell(1, 1, 65849) -> 1
                cell(1, 2, -199) -> 1
                type keep
                feed(32, 1)
                mail(1, 1, 0, 3) -> 8
                order(1) -> 1
                sheet(2, 2, 3) -> 1
                cell(2, 0, 313) -> 1
                cell(2, 1, 2147483449) -> 1
                cell(2, 2, -199) -> 1
                type keep
                feed(32, 1)
                mail(2, 2, 0, 3) -> 8
                order(1) -> 2
                """);
    }

    private static void carrying() {
        Script.edge("51: BAD: no such SHEETS; -11: one is missing; -13: they are not of one sort", """
                carry(0, 0, 1, 0, 0) -> -11
                carry(3, 0, 0, 0, 0) -> -2
                carry(0, 0, 3, 0, 0) -> -2
                carry(-1, 0, 0, 0, 0) -> -2
                carry(0, 0, -1, 0, 0) -> -2
                carry(2147483647, 0, 0, 0, 0) -> -2
                carry(3, 0, 1, 0, -1) -> -2
                sheet(0, 0, 4) -> 1
                carry(0, 0, 1, 0, 0) -> -11
                carry(1, 0, 0, 0, 0) -> -11
                carry(0, 0, 1, 0, -1) -> -11
                carry(1, 9, 1, 9, 9) -> -11
                sheet(1, 1, 4) -> 1
                sheet(2, 2, 4) -> 1
                carry(0, 0, 1, 0, 0) -> -13
                carry(1, 0, 2, 0, 0) -> -13
                carry(2, 0, 0, 0, -1) -> -13
                carry(0, 9, 1, 0, 9) -> -13
                carry(0, 0, 0, 0, 0) -> 0
                """);
        Script.edge("51: -12: n, i or j is below 0, or beyond either's end", """
                sheet(0, 1, 5) -> 1
                sheet(1, 1, 3) -> 1
                carry(0, 0, 1, 0, 3) -> 3
                carry(0, 0, 1, 0, 4) -> -12
                carry(1, 0, 0, 0, 3) -> 3
                carry(1, 0, 0, 0, 4) -> -12
                carry(0, 2, 1, 0, 3) -> 3
                carry(0, 3, 1, 0, 3) -> -12
                carry(1, 0, 0, 2, 3) -> 3
                carry(1, 0, 0, 3, 3) -> -12
                carry(0, 0, 1, 0, -1) -> -12
                carry(0, -1, 1, 0, 1) -> -12
                carry(0, 0, 1, -1, 1) -> -12
                carry(0, 0, 1, 0, 0) -> 0
                carry(0, 5, 1, 3, 0) -> 0
                carry(0, 6, 1, 3, 0) -> -12
                carry(0, 5, 1, 4, 0) -> -12
                carry(0, -1, 1, 0, 0) -> -12
                carry(0, 0, 1, -1, 0) -> -12
                """);
        Script.edge("51: -12: numbers that wrap around", """
                sheet(0, 2, 5) -> 1
                sheet(1, 2, 5) -> 1
                carry(0, 2147483647, 1, 0, 1) -> -12
                carry(0, 2147483647, 1, 0, 2147483647) -> -12
                carry(0, 0, 1, 2147483647, 1) -> -12
                carry(0, 1, 1, 1, 2147483647) -> -12
                carry(0, 0, 1, 0, -2147483648) -> -12
                carry(0, -2147483648, 1, 0, 1) -> -12
                carry(0, 0, 1, -2147483648, 1) -> -12
                carry(0, -2147483648, 1, -2147483648, -2147483648) -> -12
                carry(0, 0, 1, 0, 5) -> 5
                """);
        Script.edge("51: of rows of 64 and of 0", """
                sheet(0, 0, 64) -> 1
                sheet(1, 0, 64) -> 1
                sheet(2, 0, 0) -> 1
                carry(0, 0, 1, 0, 64) -> 64
                carry(0, 0, 1, 0, 65) -> -12
                carry(0, 63, 1, 63, 1) -> 1
                carry(0, 64, 1, 64, 0) -> 0
                carry(0, 64, 1, 64, 1) -> -12
                carry(0, 0, 2, 0, 0) -> 0
                carry(0, 0, 2, 0, 1) -> -12
                """);
    }

    /** The sheet has "keep 9" with a gap of one, and what is carried closes or opens gaps. */
    private static void carriedAsTheyWere() {
        Script.edge("51: as they all were before: down within one SHEET", """
                sheet(0, 0, 7) -> 1
                cell(0, 0, 120) -> 1
                cell(0, 1, 107) -> 1
                cell(0, 2, 101) -> 1
                cell(0, 3, 101) -> 1
                cell(0, 4, 112) -> 1
                cell(0, 5, 32) -> 1
                cell(0, 6, 57) -> 1
                carry(0, 1, 0, 0, 6) -> 6
                mail(0, 0, 0, 6) -> 6
                order(1) -> 0
                mail(0, 0, 0, 7) -> 7
                order(1) -> 1
                """);
        Script.edge("51: as they all were before: up within one SHEET", """
                sheet(0, 0, 7) -> 1
                cell(0, 0, 107) -> 1
                cell(0, 1, 101) -> 1
                cell(0, 2, 101) -> 1
                cell(0, 3, 112) -> 1
                cell(0, 4, 32) -> 1
                cell(0, 5, 57) -> 1
                carry(0, 0, 0, 1, 6) -> 6
                mail(0, 0, 1, 6) -> 6
                order(1) -> 0
                # the first one is as it was
                mail(0, 0, 0, 2) -> 2
                order(1) -> -11
                """);
        Script.edge("51: to another SHEET, from i on, from j on", """
                sheet(0, 2, 4) -> 1
                sheet(1, 2, 3) -> 1
                cell(0, 2, 49) -> 1
                cell(0, 3, 59) -> 1
                carry(0, 2, 1, 1, 2) -> 2
                type keep
                feed(32, 1)
                mail(1, 2, 1, 2) -> 7
                # "keep 1;" ends too early
                order(1) -> -17
                type keep
                feed(32, 1)
                mail(1, 2, 0, 1) -> 6
                order(1) -> -15
                """);
    }
}
