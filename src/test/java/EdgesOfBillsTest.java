/** The edges of promises 31 to 34 and of the terms behind them, a sentence of the document each. */
public final class EdgesOfBillsTest {
    /** Paper 1 is a BILL of 600 drawn on day 20, paper 2 the INVOICE of day 21; both are known at the HOUSE on day 41. */
    private static final String BILL = billOf(600);

    public static void main(String[] args) {
        accepting();
        dueDays();
        ofBills();
        interest();
        hasSoMuch();
        byNumbers();
        shipsAheadOfBills();
        refusing();
        drawnAgain();
        councilNumbers();
        councilSets();
        half();
        ranks();
        councilBuys();
        councilRoom();
        Check.end();
    }

    private static String billOf(int amount) {
        return Script.atFactory(0, "draw " + amount + ";buy 0 1 if day=21;lade 0 1;sail 1 if day=21")
                + "bullion(1, 20)\ncopy(1, 0) -> 1\n";
    }

    private static void accepting() {
        Script.edge("31: NONE: no such BILL", BILL, """
                days(21) -> 41
                # an ORDER, an INVOICE, no PAPER
                accept(0) -> -1
                accept(2) -> -1
                accept(3) -> -1
                accept(-1) -> -1
                accept(150) -> -1
                accept(2147483647) -> -1
                accept(-2147483648) -> -1
                accept(1) -> 101
                """);
        Script.edge("31: NONE: there are no PAPERS", "accept(0) -> -1\nrefuse(0) -> -1\nbill(0, 0) -> -5");
        Script.edge("31: STATE: it is not KNOWN at the HOUSE", BILL, """
                accept(1) -> -3
                days(20) -> 40
                accept(1) -> -3
                days(1) -> 41
                accept(1) -> 101
                """);
        Script.edge("31: STATE: or was ACCEPTED", BILL, """
                days(21)
                accept(1) -> 101
                accept(1) -> -3
                days(1)
                accept(1) -> -3
                bill(1, 1) -> 101
                """);
        Script.edge("31: STATE: or REFUSED", BILL, """
                days(21)
                refuse(1) -> 600
                accept(1) -> -3
                bill(1, 0) -> 3
                """);
        Script.edge("31: STATE: PAID, which was ACCEPTED", BILL, """
                bullion(0, 1000)
                days(21)
                accept(1) -> 101
                days(60)
                bill(1, 0) -> 2
                accept(1) -> -3
                bullion(0, 0) -> 388
                """);
    }

    private static void dueDays() {
        Script.edge("31: due 60 DAYS later", BILL, """
                bullion(0, 1000)
                days(21)
                accept(1) -> 101
                days(59) -> 100
                bill(1, 0) -> 1
                bill(1, 2) -> 0
                bullion(0, 0) -> 1000
                days(1) -> 101
                bill(1, 0) -> 2
                bullion(0, 0) -> 388
                days(1)
                bullion(0, 0) -> 388
                """);
        Script.edge("31: due beyond 2999 it is neither PAID nor REFUSED", BILL, """
                bullion(0, 9999)
                14 times days(200)
                days(120) -> 2940
                accept(1) -> 3000
                days(59) -> 2999
                bill(1, 0) -> 1
                bill(1, 1) -> 3000
                bullion(0, 0) -> 9999
                """);
        Script.edge("31: due on the last DAY", BILL, """
                bullion(0, 9999)
                14 times days(200)
                days(119) -> 2939
                accept(1) -> 2999
                days(60) -> 2999
                bill(1, 0) -> 2
                # 2979 DAYS are 99 months
                bill(1, 2) -> 1194
                """);
    }

    private static void ofBills() {
        Script.edge("32: what 0 .. 2. -5: no such BILL", BILL, """
                bill(1, 0) -> 0
                bill(1, 1) -> -1
                bill(1, 2) -> 0
                bill(1, 3) -> -5
                bill(1, -1) -> -5
                bill(1, 2147483647) -> -5
                bill(0, 0) -> -5
                bill(2, 0) -> -5
                bill(-1, 0) -> -5
                days(21)
                # an INVOICE is no BILL
                bill(2, 0) -> -5
                bill(3, 0) -> -5
                bill(-2147483648, 0) -> -5
                accept(1)
                bill(1, 0) -> 1
                bill(1, 1) -> 101
                bill(1, 2) -> 0
                """);
    }

    /** What a FACTORY owes by a BILL that is refused so many DAYS after it was drawn (21 at least). */
    private static void interest(int amount, int days, int due) {
        StringBuilder pass = new StringBuilder();
        for (int left = days; left > 0; left -= 200) {
            pass.append("days(").append(Math.min(200, left)).append(")\n");
        }
        Script.edge("33: INTEREST of " + amount + " after " + days + " DAYS", billOf(amount), pass.toString(),
                "refuse(1) -> " + due + "\nbill(1, 2) -> " + due);
    }

    private static void interest() {
        // months (30 DAYS, cut)
        interest(600, 29, 600);
        interest(600, 30, 606);
        interest(600, 59, 606);
        interest(600, 60, 612);
        interest(600, 89, 612);
        interest(600, 90, 618);
        interest(600, 2979, 600 + 594);
        // by 100, cut
        interest(99, 30, 99);
        interest(100, 30, 101);
        interest(49, 60, 49);
        interest(50, 60, 51);
        interest(199, 30, 200);
        interest(1, 2979, 1);
        interest(9999, 2979, 9999 + 9899);
        Script.edge("32: REFUSED: the FACTORY OWES INTEREST till then, not longer", BILL, """
                days(39) -> 59
                refuse(1) -> 606
                days(200)
                bill(1, 2) -> 606
                """);
        Script.edge("32: PAID: months from drawing to paying", BILL, """
                bullion(0, 1000)
                days(29) -> 49
                accept(1) -> 109
                days(60)
                # 89 DAYS are 2 months
                bill(1, 2) -> 612
                """);
        Script.edge("32: PAID: months from drawing to paying, a DAY later", BILL, """
                bullion(0, 1000)
                days(30) -> 50
                accept(1) -> 110
                days(60)
                bill(1, 2) -> 618
                bullion(0, 0) -> 382
                """);
    }

    private static void hasSoMuch() {
        Script.edge("28 (b): the HOUSE pays, if it has so much: just so much", BILL, """
                bullion(0, 612)
                days(21)
                accept(1) -> 101
                days(60)
                bill(1, 0) -> 2
                bill(1, 2) -> 612
                bullion(0, 0) -> 0
                """);
        Script.edge("28 (b): else REFUSED: a coin short", BILL, """
                bullion(0, 611)
                days(21)
                accept(1) -> 101
                days(60)
                bill(1, 0) -> 3
                bill(1, 2) -> 612
                bullion(0, 0) -> 611
                bullion(0, 1000)
                days(100)
                bill(1, 0) -> 3
                bullion(0, 0) -> 1611
                """);
    }

    /** Papers 2 and 3 are BILLS of 600 and 100, of factories 1 and 2, both due on day 101: 612 and 102. */
    private static String twoBills(int house) {
        String ends = "buy 0 1 if day=21;lade 0 1;sail 1 if day=21";
        StringBuilder rows = new StringBuilder("bullion(0, " + house + ")\n");
        for (int p = 1; p <= 2; p++) {
            rows.append("factory(").append(p).append(", 0, 20)\nfactory(").append(p).append(", 1, 20)\nship(0, 5)\ntake()\n");
            rows.append(Script.ordered("draw " + (p == 1 ? 600 : 100) + ";" + ends, p, p - 1));
            rows.append("copy(").append(p - 1).append(", ").append(p - 1).append(")\nsail(").append(p - 1).append(", ")
                    .append(p).append(")\n");
        }
        return rows + "days(20)\ncopy(2, 0) -> 1\ncopy(3, 1) -> 1\ndays(21)\naccept(3) -> 101\naccept(2) -> 101\ndays(60)\n";
    }

    private static void byNumbers() {
        Script.edge("28 (b): by numbers: enough for both", twoBills(714), "bill(2, 0) -> 2\nbill(3, 0) -> 2\nbullion(0, 0) -> 0");
        Script.edge("28 (b): by numbers: a coin short for the second", twoBills(713),
                "bill(2, 0) -> 2\nbill(3, 0) -> 3\nbullion(0, 0) -> 101");
        Script.edge("28 (b): by numbers: not enough for the first", twoBills(611),
                "bill(2, 0) -> 3\nbill(3, 0) -> 2\nbullion(0, 0) -> 509");
        Script.edge("28 (b): by numbers: for none", twoBills(101), "bill(2, 0) -> 3\nbill(3, 0) -> 3\nbullion(0, 0) -> 101");
    }

    private static void shipsAheadOfBills() {
        String begin = Script.atFactory(0, "draw 600;buy 0 1 if day=21 or day=81;lade 0 1;sail 1 if day=21 or day=81");
        Script.edge("28 (a), (b): coins that come on that DAY pay", begin, """
                copy(1, 0)
                bullion(1, 52)
                days(21) -> 41
                accept(1) -> 101
                days(19) -> 60
                take() -> 0
                sail(0, 1) -> 2
                days(20) -> 80
                load(0, 612) -> 612
                bullion(0, 0) -> 0
                days(21) -> 101
                bill(1, 0) -> 2
                bullion(0, 0) -> 0
                stock(0, 0) -> 2
                """);
    }

    private static void refusing() {
        Script.edge("33: NONE", BILL, """
                days(21)
                refuse(0) -> -1
                refuse(2) -> -1
                refuse(3) -> -1
                refuse(-1) -> -1
                refuse(2147483647) -> -1
                refuse(-2147483648) -> -1
                refuse(1) -> 600
                """);
        Script.edge("33: STATE: it is not KNOWN at the HOUSE", BILL, """
                refuse(1) -> -3
                days(20)
                refuse(1) -> -3
                days(1)
                refuse(1) -> 600
                """);
        Script.edge("33: STATE: or REFUSED", BILL, """
                days(21)
                refuse(1) -> 600
                refuse(1) -> -3
                days(30)
                refuse(1) -> -3
                bill(1, 2) -> 600
                """);
        Script.edge("33: STATE: or REFUSED when it was due", BILL, """
                days(21)
                accept(1)
                days(60)
                bill(1, 0) -> 3
                refuse(1) -> -3
                """);
        Script.edge("33: STATE: or PAID", BILL, """
                bullion(0, 1000)
                days(21)
                accept(1)
                days(60)
                refuse(1) -> -3
                bill(1, 0) -> 2
                bill(1, 2) -> 612
                """);
        Script.edge("33: one that is ACCEPTED, on the last DAY on which it is", BILL, """
                bullion(0, 1000)
                days(21)
                accept(1) -> 101
                days(59) -> 100
                refuse(1) -> 612
                bill(1, 0) -> 3
                days(1)
                bill(1, 0) -> 3
                bullion(0, 0) -> 1000
                """);
    }

    /** Neither PAID nor REFUSED is open; bills fall due ahead of what factories do on that DAY. */
    private static void drawnAgain() {
        Script.edge("28 draw: behind a BILL that is REFUSED by hand", BILL, """
                bullion(1, -620)
                days(21)
                count(1) -> 2
                refuse(1) -> -3
                """);
        Script.edge("28 draw: while it is ACCEPTED none, on the DAY on which it is PAID another", BILL, """
                bullion(0, 612)
                days(21) -> 41
                bullion(1, -600) -> 0
                accept(1) -> 101
                days(59)
                count(1) -> 3
                days(1)
                bill(1, 0) -> 2
                count(1) -> 4
                bill(3, 0) -> 0
                paper(3, 2) -> 101
                bullion(1, 0) -> 600
                """);
        Script.edge("28 draw: on the DAY on which it is REFUSED another", BILL, """
                days(21) -> 41
                bullion(1, -600) -> 0
                accept(1) -> 101
                days(60)
                bill(1, 0) -> 3
                bill(3, 0) -> 0
                """);
        Script.edge("28 draw: from the DAY behind the refusal on", BILL, """
                days(21) -> 41
                bullion(1, -600) -> 0
                refuse(1) -> 600
                count(1) -> 3
                days(1)
                count(1) -> 4
                paper(3, 2) -> 42
                """);
    }

    private static final String COUNCIL = "bullion(1, 100000)\nperson(1, 4)\nperson(1, 4)\nperson(2, 9)\n";

    private static void councilNumbers() {
        Script.edge("34: NONE: factory, sort", COUNCIL, """
                council(0, 0, 1, 1, 0) -> -1
                council(5, 0, 1, 1, 0) -> -1
                council(-1, 0, 1, 1, 0) -> -1
                council(1, 4, 1, 1, 0) -> -1
                council(1, -1, 1, 1, 0) -> -1
                council(0, 0, 0, -1, -1) -> -1
                council(1, 4, 100, -1, -1) -> -1
                council(1, 0, 1, 1, 0) -> 20
                council(1, 3, 1, 1, 0) -> 20
                """);
        Script.edge("34: BAD: n (1 .. 99)", COUNCIL, """
                council(1, 0, 0, 1, 0) -> -2
                council(1, 0, -1, 1, 0) -> -2
                council(1, 0, 100, 1, 0) -> -2
                council(1, 0, 2147483647, 1, 0) -> -2
                council(1, 0, -2147483648, 1, 0) -> -2
                # ahead of STATE
                council(1, 0, 100, 0, 0) -> -2
                council(1, 0, 0, 3, 3) -> -2
                count(1) -> 0
                council(1, 0, 1, 1, 0) -> 20
                council(2, 0, 99, 4, 0) -> 0
                council(1, 1, 99, 1, 0) -> 2911
                stock(1, 1) -> 99
                """);
    }

    private static void councilSets() {
        Script.edge("34: BAD: a set with others than its PERSONS", COUNCIL, """
                # PERSON 2 is at another FACTORY, PERSON 3 is nobody
                council(1, 0, 1, 4, 0) -> -2
                council(1, 0, 1, 7, 0) -> -2
                council(1, 0, 1, 3, 4) -> -2
                council(1, 0, 1, 8, 0) -> -2
                council(1, 0, 1, 3, 8) -> -2
                council(1, 0, 1, 1048577, 0) -> -2
                council(1, 0, 1, 524289, 0) -> -2
                council(1, 0, 1, -2147483648, 0) -> -2
                council(1, 0, 1, 3, -2147483648) -> -2
                council(1, 0, 1, 1073741825, 0) -> -2
                council(1, 0, 1, -1, 0) -> -2
                council(1, 0, 1, 0, -1) -> -2
                # ahead of STATE
                council(1, 0, 1, 4, 4) -> -2
                council(1, 0, 1, 0, 4) -> -2
                council(1, 0, 1, 3, 0) -> 20
                council(2, 0, 1, 4, 0) -> 0
                """);
        Script.edge("34: nobody both ways", COUNCIL, """
                council(1, 0, 1, 3, 1) -> -3
                council(1, 0, 1, 3, 2) -> -3
                council(1, 0, 1, 1, 1) -> -3
                council(1, 0, 1, 1, 2) -> 20
                """);
    }

    /** A council of so many of rank 0, of whom the first so many say yes. */
    private static void half(int persons, int yes, boolean carries) {
        StringBuilder rows = new StringBuilder("bullion(1, 20)\n");
        rows.append(persons > 0 ? persons + " times person(1, 0)\n" : "");
        rows.append("council(1, 0, 1, ").append((1 << yes) - 1).append(", 0) -> ").append(carries ? 20 : -3);
        Script.edge("34: at least half of its PERSONS vote: " + yes + " of " + persons, rows.toString());
    }

    private static void half() {
        half(0, 0, false);
        half(1, 0, false);
        half(1, 1, true);
        half(2, 1, true);
        half(3, 1, false);
        half(3, 2, true);
        half(4, 1, false);
        half(4, 2, true);
        half(5, 2, false);
        half(5, 3, true);
        half(19, 9, false);
        half(19, 10, true);
        half(20, 9, false);
        half(20, 10, true);
        half(20, 20, true);
        Script.edge("34: those who say no vote too", "bullion(1, 20)\n4 times person(1, 0)\nperson(1, 3)", """
                council(1, 0, 1, 16, 0) -> -3
                council(1, 0, 1, 16, 1) -> -3
                council(1, 0, 1, 16, 3) -> 20
                """);
    }

    /** Yes and no are told by persons of these ranks, as they come. */
    private static void ranks(String what, boolean carries, int yes, int no, int... ranks) {
        StringBuilder rows = new StringBuilder("bullion(1, 20)\n");
        for (int rank : ranks) {
            rows.append("person(1, ").append(rank).append(")\n");
        }
        rows.append("council(1, 0, 1, ").append(yes).append(", ").append(no).append(") -> ").append(carries ? 20 : -3);
        rows.append("\ncount(1) -> ").append(carries ? 1 + Integer.bitCount(no) : 0);
        Script.edge("34: " + what, rows.toString());
    }

    private static void ranks() {
        ranks("more by one", true, 1, 2, 5, 4);
        ranks("less by one", false, 1, 2, 4, 5);
        ranks("as much, and both are of the greatest RANK", true, 1, 2, 5, 5);
        ranks("each and 1: two of RANK 0 are as much as one of RANK 1, who says no", false, 3, 4, 0, 0, 1);
        ranks("as much, and the one of RANK 1 says yes", true, 4, 3, 0, 0, 1);
        ranks("each and 1: two of RANK 0 are more than one of RANK 0", true, 3, 4, 0, 0, 0);
        ranks("each and 1: one of RANK 0 counts", true, 1, 0, 0);
        ranks("three of RANK 0 are more than one of RANK 1", true, 7, 8, 0, 0, 0, 1);
        ranks("as much, the greatest of those that vote; a greater one does not vote", true, 1, 2, 5, 5, 9);
        ranks("as much, of two of the greatest RANK one says yes", true, 1 | 8, 2 | 4, 5, 5, 0, 0);
        ranks("nobody says yes", false, 0, 1, 5);
        ranks("nobody votes", false, 0, 0, 0);
        ranks("the most", true, 1, 2, 9, 8);
        ranks("less, though one of the greatest RANK says yes", false, 1, 6, 9, 9, 0);
    }

    private static void councilBuys() {
        Script.edge("34: as buy S N: PRICE is no more than BULLION", "person(1, 0)\nbullion(1, 40)", """
                council(1, 0, 9, 1, 0) -> 40
                stock(1, 0) -> 2
                bullion(1, 0) -> 0
                entry(0, 4) -> 2
                count(5) -> 1
                # with none it buys none
                council(1, 0, 9, 1, 0) -> 0
                count(5) -> 1
                count(1) -> 2
                bullion(1, 19)
                council(1, 1, 1, 1, 0) -> 0
                bullion(1, 1)
                council(1, 1, 1, 1, 0) -> 20
                """);
        Script.edge("34: with KEEP 0", Script.atFactory(20, "keep 9999"), """
                person(1, 0)
                council(1, 0, 1, 1, 0) -> 20
                """);
        Script.edge("34: HEAT rises by it", "person(1, 0)\nbullion(1, 1000)", """
                council(1, 0, 6, 1, 0) -> 121
                price(1, 0) -> 21
                council(1, 0, 1, 1, 0) -> 21
                days(1)
                price(1, 0) -> 20
                """);
    }

    private static void councilRoom() {
        String council = "bullion(1, 1000)\n2 times person(1, 9)\n2 times person(1, 0)\n";
        Script.edge("34: FULL: a CONSULT needs room", council, """
                149 times letter(0, 1) -> 148
                council(1, 0, 1, 3, 4) -> -4
                council(1, 0, 1, 3, 12) -> -4
                stock(1, 0) -> 0
                council(1, 0, 1, 3, 0) -> 20
                paper(149, 0) -> 3
                council(1, 0, 1, 3, 0) -> -4
                # BAD and STATE ahead of it
                council(1, 0, 0, 3, 0) -> -2
                council(1, 0, 1, 12, 3) -> -3
                council(1, 4, 1, 3, 0) -> -1
                bullion(1, 0) -> 980
                """);
        Script.edge("34: FULL: and for each no a DISSENT", council, """
                147 times letter(0, 1) -> 146
                council(1, 0, 1, 3, 12) -> 20
                paper(147, 0) -> 3
                paper(148, 0) -> 6
                paper(149, 0) -> 6
                paper(149, 1) -> 1
                paper(149, 3) -> 0
                known(149, 1) -> 0
                count(1) -> 150
                """);
        Script.edge("34: FULL: one PAPER short", council, """
                148 times letter(0, 1) -> 147
                council(1, 0, 1, 3, 12) -> -4
                count(1) -> 148
                count(5) -> 0
                council(1, 0, 1, 3, 4) -> 20
                count(1) -> 150
                """);
    }
}
