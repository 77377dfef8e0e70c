/** The edges of promises 9 to 18 but for the reading of orders, a sentence of the document each. */
public final class EdgesOfPapersTest {
    public static void main(String[] args) {
        feeding();
        fullTape();
        mailing();
        mailedItems();
        mailedNothing();
        orders();
        letters();
        copies();
        copiesOfAnInvoice();
        knowing();
        ofPapers();
        force();
        latest();
        latestByReading();
        tests();
        testsByFields();
        Check.end();
    }

    private static void feeding() {
        Script.edge("9: n 0 .. 4", """
                feed(0, 4) -> 4
                feed(0, 0) -> 4
                feed(0, 5) -> -2
                feed(0, -1) -> -2
                feed(0, 2147483647) -> -2
                feed(0, -2147483648) -> -2
                feed(0, 1) -> 5
                count(6) -> 5
                """);
        // 27512 is "kx": an order may begin with k, not with x.
        Script.edge("9: the highest of these first", """
                feed(27512, 2) -> 2
                order(1) -> -11
                feed(30827, 2) -> 2
                order(1) -> -10
                """);
        Script.edge("9: the n lowest bytes of a number", """
                # 0x786b6565, 0x78787020, 0x78787839: kee, p and a blank, 9
                feed(2020304229, 3) -> 3
                feed(2021158944, 2) -> 5
                feed(2021161017, 1) -> 6
                order(1) -> 0
                # keep in one number, and 255 four times
                feed(1801807216, 4) -> 4
                feed(-1, 4) -> 8
                order(1) -> -14
                """);
    }

    private static void fullTape() {
        Script.edge("9: THE TAPE (bytes, 120 at most); FULL", """
                29 times feed(0, 4) -> 116
                feed(0, 3) -> 119
                feed(0, 2) -> -4
                feed(0, 4) -> -4
                feed(0, 5) -> -2
                count(6) -> 119
                feed(0, 1) -> 120
                feed(0, 1) -> -4
                feed(0, -1) -> -2
                feed(0, 0) -> 120
                count(6) -> 120
                """);
        Script.edge("9: a byte that finds no room leaves those ahead of it", Script.typed("keep 1;".repeat(5) + "keep 1"), """
                19 times feed(0, 4) -> 117
                feed(0, 4) -> -4
                feed(0, 3) -> 120
                order(1) -> -51
                """);
    }

    private static void mailing() {
        Script.edge("10: NONE: no such SHEET, sort", """
                sheet(0, 0, 4) -> 1
                sheet(2, 2, 4) -> 1
                mail(0, 0, 0, 1) -> 1
                mail(2, 2, 0, 1) -> 2
                mail(-1, 0, 0, 1) -> -1
                mail(3, 0, 0, 1) -> -1
                mail(0, -1, 0, 1) -> -1
                mail(0, 3, 0, 1) -> -1
                mail(3, 0, 0, -1) -> -1
                mail(0, 3, 0, -1) -> -1
                mail(3, 0, 0, 0) -> -1
                mail(0, -1, 0, 0) -> -1
                mail(2147483647, 0, 0, 1) -> -1
                count(6) -> 2
                """);
        Script.edge("10: BAD: n below 0", """
                sheet(0, 0, 4) -> 1
                mail(0, 0, 0, -1) -> -2
                mail(0, 1, 0, -1) -> -2
                mail(1, 0, 0, -1) -> -2
                mail(0, 0, 9, -1) -> -2
                mail(0, 0, 4, -2147483648) -> -2
                count(6) -> 0
                """);
        Script.edge("10: -13: it is of another sort; -11: it is missing", """
                sheet(0, 0, 4) -> 1
                sheet(1, 1, 4) -> 1
                mail(0, 1, 0, 1) -> -13
                mail(0, 2, 0, 1) -> -13
                mail(1, 0, 0, 1) -> -13
                mail(1, 2, 9, 9) -> -13
                mail(2, 0, 0, 1) -> -11
                mail(2, 1, 9, 9) -> -11
                mail(2, 2, -1, 1) -> -11
                mail(1, 1, 0, 1) -> 1
                sheet(1, -1, 0) -> 1
                mail(1, 1, 0, 1) -> -11
                """);
    }

    private static void mailedItems() {
        Script.edge("10: -12: it has not so many items", """
                sheet(0, 2, 4) -> 1
                mail(0, 2, 0, 4) -> 4
                mail(0, 2, 0, 5) -> -12
                mail(0, 2, 3, 1) -> 5
                mail(0, 2, 3, 2) -> -12
                mail(0, 2, 4, 1) -> -12
                mail(0, 2, -1, 1) -> -12
                mail(0, 2, -1, 5) -> -12
                mail(0, 2, 1, 2147483647) -> -12
                mail(0, 2, 2147483647, 1) -> -12
                mail(0, 2, 2147483647, 2147483647) -> -12
                mail(0, 2, -2147483648, 1) -> -12
                sheet(1, 0, 0) -> 1
                mail(1, 0, 0, 1) -> -12
                count(6) -> 5
                """);
        Script.edge("10: FULL", """
                sheet(0, 1, 64) -> 1
                mail(0, 1, 0, 64) -> 64
                mail(0, 1, 0, 57) -> -4
                mail(0, 1, 8, 57) -> -12
                mail(0, 1, 8, 56) -> 120
                mail(0, 1, 0, 1) -> -4
                mail(0, 1, 64, 1) -> -12
                mail(0, 0, 0, 1) -> -13
                mail(1, 0, 0, 1) -> -11
                mail(0, 1, 0, -1) -> -2
                count(6) -> 120
                """);
        Script.edge("10: each its lowest 8 bits", """
                # 0x7fffff6b is k, 101 - 256 e, 101 + 256 e, 112 + 0x10000 p, 544 a blank, 0x80000039 9
                sheet(0, 2, 6) -> 1
                cell(0, 0, 2147483499) -> 1
                cell(0, 1, -155) -> 1
                cell(0, 2, 357) -> 1
                cell(0, 3, 65648) -> 1
                cell(0, 4, 544) -> 1
                cell(0, 5, -2147483591) -> 1
                mail(0, 2, 0, 6) -> 6
                order(1) -> 0
                # bytes below 0 are above 127 on THE TAPE
                sheet(1, 0, 1) -> 1
                cell(1, 0, 255) -> 1
                mail(1, 0, 0, 1) -> 1
                order(1) -> -10
                """);
        Script.edge("10: from item i on, behind THE TAPE's", """
                sheet(0, 0, 3) -> 1
                cell(0, 0, 120) -> 1
                cell(0, 1, 112) -> 1
                cell(0, 2, 32) -> 1
                type kee
                mail(0, 0, 1, 2) -> 5
                feed(49, 1) -> 6
                order(1) -> 0
                """);
    }

    private static void mailedNothing() {
        Script.edge("10: n 0 asks nothing but NONE", """
                type four
                mail(0, 0, 0, 0) -> 4
                mail(0, 2, -5, 0) -> 4
                sheet(1, 0, 3) -> 1
                mail(1, 2, 0, 0) -> 4
                mail(1, 0, 4, 0) -> 4
                mail(1, 0, -2147483648, 0) -> 4
                mail(3, 0, 0, 0) -> -1
                mail(1, 3, 0, 0) -> -1
                29 times feed(0, 4) -> 120
                mail(1, 0, 0, 0) -> 120
                mail(1, 0, 0, 1) -> -4
                """);
    }

    private static void orders() {
        Script.edge("11: THE TAPE is empty then", """
                type keep 1
                order(1) -> 0
                count(6) -> 0
                type keep x
                order(1) -> -15
                count(6) -> 0
                order(1) -> -10
                count(1) -> 1
                """);
        Script.edge("11: NONE: no such FACTORY: THE TAPE stays", """
                type keep 1
                order(0) -> -1
                order(5) -> -1
                order(-1) -> -1
                order(2147483647) -> -1
                count(6) -> 6
                order(4) -> 0
                paper(0, 3) -> 4
                type x
                order(0) -> -1
                count(6) -> 1
                order(1) -> -10
                """);
        Script.edge("11: FULL: THE TAPE stays", """
                149 times letter(0, 1) -> 148
                type keep 1;sail 2
                order(1) -> 149
                type keep 1
                order(1) -> -4
                count(6) -> 6
                order(0) -> -1
                count(6) -> 6
                count(1) -> 150
                paper(149, 5) -> 2
                """);
        Script.edge("11: FULL, whatever THE TAPE has", """
                150 times letter(0, 1) -> 149
                order(1) -> -4
                type x
                order(1) -> -4
                count(6) -> 1
                """);
    }

    private static void letters() {
        Script.edge("12: NONE; BAD: they are one", """
                letter(0, 4) -> 0
                letter(4, 0) -> 1
                letter(-1, 0) -> -1
                letter(5, 0) -> -1
                letter(0, -1) -> -1
                letter(0, 5) -> -1
                letter(5, 5) -> -1
                letter(-1, -1) -> -1
                letter(0, 0) -> -2
                letter(4, 4) -> -2
                count(1) -> 2
                """);
        Script.edge("12: PAPERS 0 .. 149, as they come; FULL", """
                149 times letter(1, 0) -> 148
                letter(2, 3) -> 149
                letter(2, 3) -> -4
                letter(1, 1) -> -2
                letter(5, 1) -> -1
                count(1) -> 150
                paper(149, 1) -> 2
                paper(150, 1) -> -5
                """);
    }

    private static void copies() {
        Script.edge("13: NONE", """
                copy(0, 0) -> -1
                letter(0, 1) -> 0
                copy(0, 0) -> -1
                ship(0, 1) -> 0
                copy(0, 1) -> -1
                copy(0, -1) -> -1
                copy(1, 0) -> -1
                copy(-1, 0) -> -1
                copy(2147483647, 0) -> -1
                copy(0, -2147483648) -> -1
                copy(0, 0) -> 1
                """);
        Script.edge("13: COPIES of a PAPER: 3 at most; FULL: 3", """
                letter(0, 1) -> 0
                letter(0, 1) -> 1
                ship(0, 1) -> 0
                ship(0, 1) -> 1
                copy(0, 0) -> 1
                copy(0, 1) -> 2
                copy(0, 0) -> 3
                copy(0, 0) -> -4
                copy(0, 1) -> -4
                shipOf(0, 9) -> 2
                shipOf(1, 9) -> 1
                paper(0, 4) -> 3
                copy(1, 0) -> 1
                """);
        Script.edge("13: STATE: the SHIP is at no PLACE, or the PAPER is not KNOWN there", """
                factory(1, 0, 20)
                factory(2, 0, 20)
                letter(0, 1) -> 0
                letter(1, 0) -> 1
                ship(0, 1)
                ship(1, 1)
                take() -> 0
                take() -> 1
                copy(1, 0) -> -3
                copy(0, 0) -> 1
                copy(0, 0) -> 2
                copy(0, 0) -> 3
                sail(0, 1) -> 0
                sail(1, 2) -> 1
                # at sea, ahead of FULL
                copy(0, 0) -> -3
                copy(1, 0) -> -3
                days(19)
                copy(0, 0) -> -3
                lose(1) -> 1
                days(1)
                # there it is known, so FULL; one written there is known too
                copy(0, 0) -> -4
                copy(1, 0) -> 1
                # gone
                shipOf(1, 0) -> -2
                copy(0, 1) -> -3
                copy(1, 1) -> -3
                """);
        Script.edge("13: where a COPY was carried by, it is not KNOWN", """
                factory(1, 0, 20)
                letter(0, 2) -> 0
                ship(0, 1)
                take()
                copy(0, 0) -> 1
                sail(0, 1)
                days(20)
                copy(0, 0) -> -3
                known(0, 1) -> -1
                shipOf(0, 9) -> 1
                """);
    }

    private static void copiesOfAnInvoice() {
        Script.edge("13: the COPY that an INVOICE has aboard is one of three",
                Script.atFactory(1000, "buy 0 1;lade 0 1;sail 1"), """
                paper(1, 0) -> 4
                paper(1, 4) -> 1
                ship(0, 5) -> 1
                take() -> 1
                sail(1, 1) -> 2
                days(20)
                known(1, 0) -> 40
                copy(1, 0) -> 2
                copy(1, 0) -> 3
                copy(1, 0) -> -4
                """);
    }

    private static void knowing() {
        Script.edge("14: -1: not. -5: none such", """
                known(0, 0) -> -5
                letter(3, 0) -> 0
                known(0, 3) -> 0
                known(0, 0) -> -1
                known(0, 4) -> -1
                known(0, 5) -> -5
                known(0, -1) -> -5
                known(1, 0) -> -5
                known(-1, 0) -> -5
                known(2147483647, 0) -> -5
                known(-2147483648, 0) -> -5
                """);
        Script.edge("14: from the DAY on which a COPY of it was first READ there", """
                factory(1, 0, 20)
                letter(0, 1) -> 0
                ship(0, 1)
                ship(0, 1)
                2 times take()
                copy(0, 0)
                copy(0, 1)
                sail(0, 1) -> 0
                days(1)
                sail(1, 1) -> 1
                days(18)
                known(0, 1) -> -1
                days(1)
                known(0, 1) -> 20
                days(1)
                shipOf(1, 0) -> 1
                shipOf(1, 9) -> 0
                known(0, 1) -> 20
                known(0, 0) -> 0
                """);
        Script.edge("14: where it was WRITTEN, from that DAY on, though a COPY is READ there later",
                Script.atFactory(1000, "buy 0 1;lade 0 1;sail 1 if day=25"), """
                days(3)
                letter(1, 0) -> 1
                known(1, 1) -> 23
                copy(1, 0) -> 1
                days(22)
                known(1, 0) -> 45
                known(1, 1) -> 23
                """);
    }

    private static void ofPapers() {
        Script.edge("15: what 0 .. 5. -5: none such", """
                paper(0, 0) -> -5
                days(7)
                letter(4, 2) -> 0
                paper(0, 0) -> 1
                paper(0, 1) -> 4
                paper(0, 2) -> 7
                paper(0, 3) -> 2
                paper(0, 4) -> 0
                paper(0, 5) -> 0
                paper(0, 6) -> -5
                paper(0, -1) -> -5
                paper(1, 0) -> -5
                paper(-1, 0) -> -5
                paper(0, 2147483647) -> -5
                paper(2147483647, 0) -> -5
                """);
        Script.edge("15: of an ORDER how many PARAGRAPHS", """
                type keep 1
                order(1) -> 0
                paper(0, 5) -> 1
                type keep 1;keep 1;keep 1;keep 1;keep 1;keep 1
                order(4) -> 1
                paper(1, 5) -> 6
                paper(1, 0) -> 2
                paper(1, 1) -> 0
                paper(1, 3) -> 4
                """);
    }

    private static void force() {
        String one = Script.atFactory(0, "keep 1;keep 2 if day=1");
        Script.edge("16, 17, 18: NONE: none such", one, """
                force(1) -> 2
                forced(1, 0) -> 0
                forced(1, 1) -> 1
                forced(1, 2) -> -1
                forced(1, -1) -> -1
                forced(1, 2147483647) -> -1
                forced(1, -2147483648) -> -1
                forced(2, 0) -> -1
                forced(0, 0) -> -1
                forced(5, 0) -> -1
                forced(-1, 0) -> -1
                holds(1, 0) -> 1
                holds(1, 1) -> 0
                holds(1, 2) -> -1
                holds(1, -1) -> -1
                holds(2, 0) -> -1
                holds(0, 0) -> -1
                holds(5, 0) -> -1
                holds(-1, 0) -> -1
                force(2) -> 0
                """);
        Script.edge("16: all ORDERS for it that are KNOWN there: from the day of reading on", """
                factory(1, 0, 20)
                type keep 1
                order(1) -> 0
                ship(0, 1)
                take()
                copy(0, 0)
                sail(0, 1)
                force(1) -> 0
                days(19)
                force(1) -> 0
                days(1)
                force(1) -> 1
                """);
        Script.edge("16: an ORDER for another FACTORY is not in force", """
                factory(1, 0, 20)
                type keep 1
                order(2) -> 0
                ship(0, 1)
                take()
                copy(0, 0)
                sail(0, 1)
                days(20)
                force(1) -> 0
                force(2) -> 0
                """);
    }

    /** Two orders, the second with ship 1 a day later. */
    private static String two(String first, String second) {
        return "factory(1, 0, 20)\nbullion(1, 20)\nship(0, 1)\nship(0, 1)\n2 times take()\n"
                + Script.ordered(first, 1, 0) + Script.ordered(second, 1, 1)
                + "copy(0, 0)\ncopy(1, 1)\nsail(0, 1)\ndays(1)\nsail(1, 1)\ndays(20)\n";
    }

    private static void latest() {
        Script.edge("16: of the same ACT and SORT just those of the latest ORDER",
                two("buy 0 1;buy 1 1;buy 0 2", "buy 0 3"), """
                force(1) -> 2
                forced(1, 0) -> 1
                forced(1, 1) -> 10
                """);
        Script.edge("16: all those of the latest ORDER that has such",
                two("buy 0 1", "buy 0 3;keep 1;buy 0 4 if day=1"), """
                force(1) -> 3
                forced(1, 0) -> 10
                forced(1, 1) -> 11
                forced(1, 2) -> 12
                """);
        Script.edge("16: another ACT of the same SORT stays", two("buy 0 1;lade 0 1;advance 0 1", "lade 0 2"), """
                force(1) -> 3
                forced(1, 0) -> 0
                forced(1, 1) -> 2
                forced(1, 2) -> 10
                """);
        Script.edge("16: another ACT of another SORT stays",
                two("buy 1 1;advance 2 1;lade 3 1;keep 1", "advance 0 1;lade 1 1;buy 3 1;sail 1;draw 1"), """
                force(1) -> 9
                forced(1, 0) -> 0
                forced(1, 1) -> 1
                forced(1, 2) -> 2
                forced(1, 3) -> 3
                forced(1, 4) -> 10
                forced(1, 8) -> 14
                """);
        Script.edge("16: an ACT without a SORT", two("keep 1;sail 1;draw 1;buy 0 1", "draw 2;keep 2"), """
                force(1) -> 4
                forced(1, 0) -> 1
                forced(1, 1) -> 3
                forced(1, 2) -> 10
                forced(1, 3) -> 11
                """);
        Script.edge("16: whether their TESTS hold or not", two("buy 3 1", "buy 3 1 if day=359"), """
                force(1) -> 1
                forced(1, 0) -> 10
                holds(1, 0) -> 0
                count(5) -> 1
                """);
        Script.edge("16: one that has none left", two("buy 0 1;sail 1", "sail 2;buy 0 2"), """
                force(1) -> 2
                forced(1, 0) -> 10
                forced(1, 1) -> 11
                forced(1, 2) -> -1
                """);
    }

    /** The latest is the one that came to be KNOWN latest, not the one written latest. */
    private static void latestByReading() {
        String begin = "factory(1, 0, 20)\nship(0, 1)\nship(0, 1)\n2 times take()\n"
                + Script.ordered("keep 1;buy 0 1", 1, 0) + Script.ordered("keep 2;buy 1 1", 1, 1);
        Script.edge("16: in the order in which they came to be", begin, """
                copy(1, 0)
                copy(0, 1)
                sail(0, 1)
                days(1)
                sail(1, 1)
                days(20)
                force(1) -> 3
                forced(1, 0) -> 11
                forced(1, 1) -> 0
                forced(1, 2) -> 1
                """);
        Script.edge("16: of one DAY by numbers", begin, """
                copy(1, 0)
                copy(0, 1)
                sail(0, 1)
                sail(1, 1)
                days(20)
                force(1) -> 3
                forced(1, 0) -> 1
                forced(1, 1) -> 10
                forced(1, 2) -> 11
                """);
        Script.edge("16: a COPY that is READ again changes nothing", begin, """
                copy(0, 0)
                copy(1, 0)
                copy(0, 1)
                sail(0, 1)
                days(1)
                sail(1, 1)
                days(20)
                force(1) -> 3
                forced(1, 0) -> 1
                forced(1, 1) -> 10
                """);
    }

    /** Whether a test holds at factory 1 on day 20, with 50 coins, a ship and nothing in stock. */
    private static void test(String test, int due) {
        Script.edge("18: " + test, Script.atFactory(50, "keep 1 if " + test), "holds(1, 0) -> " + due);
    }

    private static void tests() {
        String[] fields = {"price0", "stock0", "bullion", "ships", "day"};
        int[] values = {20, 0, 50, 1, 20};
        for (int i = 0; i < fields.length; i++) {
            for (int number = Math.max(0, values[i] - 1); number <= values[i] + 1; number++) {
                test(fields[i] + "<" + number, values[i] < number ? 1 : 0);
                test(fields[i] + "=" + number, values[i] == number ? 1 : 0);
                test(fields[i] + ">" + number, values[i] > number ? 1 : 0);
                test("not " + fields[i] + "<" + number, values[i] < number ? 0 : 1);
                test("not " + fields[i] + "=" + number, values[i] == number ? 0 : 1);
                test("not " + fields[i] + ">" + number, values[i] > number ? 0 : 1);
            }
        }
        test("bullion<9999", 1);
        test("bullion>0050", 0);
        // and binds closer: t or (t and f), (f and f) or t, not (f or t) and f
        test("day=20 or day=20 and day=0", 1);
        test("day=0 and day=0 or day=20", 1);
        test("day=0 or day=20 and day=0", 0);
        test("day=20 and day=0 or day=0 and day=20", 0);
        test("day=20 and day=20 and day=20 and day=20", 1);
        test("day=20 and day=20 and day=20 and day=0", 0);
        test("day=0 or day=0 or day=0 or day=20", 1);
        test("day=0 or day=0 or day=0 or day=0", 0);
        test("not day=20 or day=20", 1);
        test("not day=0 and day=0", 0);
    }

    private static void testsByFields() {
        Script.edge("18: each SORT its own price and stock",
                Script.atFactory(9999, "keep 1 if price3=22 and stock3=11;buy 3 11;keep 2 if price2=20 and stock2=0"), """
                holds(1, 0) -> 1
                holds(1, 2) -> 1
                """);
        Script.edge("18: ships: SHIPS that are there",
                Script.atFactory(0, "keep 1 if ships=1;keep 1 if ships=2;keep 1 if ships=0"), """
                factory(2, 0, 20)
                ship(0, 1)
                ship(0, 1)
                2 times take()
                sail(1, 1)
                sail(2, 2)
                holds(1, 0) -> 1
                days(19)
                holds(1, 0) -> 1
                holds(1, 1) -> 0
                days(1)
                holds(1, 0) -> 0
                holds(1, 1) -> 1
                holds(1, 2) -> 0
                """);
        Script.edge("18: day: DAY modulo 360; a YEAR has 360",
                Script.atFactory(0, "keep 1 if day=359;keep 1 if day=0;keep 1 if day>359"), """
                days(200)
                days(138) -> 358
                holds(1, 0) -> 0
                days(1) -> 359
                holds(1, 0) -> 1
                holds(1, 1) -> 0
                days(1) -> 360
                holds(1, 0) -> 0
                holds(1, 1) -> 1
                holds(1, 2) -> 0
                days(1) -> 361
                holds(1, 1) -> 0
                """);
        Script.edge("18: bullion is all that is there, KEEP or not", Script.atFactory(50, "keep 9;draw 1 if bullion=50"), """
                holds(1, 1) -> 1
                bullion(1, -1)
                holds(1, 1) -> 0
                """);
    }
}
