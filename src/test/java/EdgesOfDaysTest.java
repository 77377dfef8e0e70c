/** The edges of promises 28 to 30 and of what A DAY does, a sentence of the document each. */
public final class EdgesOfDaysTest {
    public static void main(String[] args) {
        days();
        shipsCome();
        heat();
        fifths();
        spoilt();
        advances();
        advancesOneByOne();
        buying();
        keeping();
        lading();
        sending();
        sendingOneByOne();
        invoices();
        drawing();
        drawingWithoutRoom();
        entries();
        entriesKept();
        open();
        Check.end();
    }

    private static void days() {
        Script.edge("28: n DAYS COME (1 .. 200)", """
                days(0) -> -2
                days(-1) -> -2
                days(1) -> 1
                days(200) -> 201
                days(201) -> -2
                days(2147483647) -> -2
                days(-2147483648) -> -2
                count(4) -> 201
                """);
        Script.edge("28: DAY is 2999 at most. BAD: also beyond 2999", """
                14 times days(200) -> 2800
                days(200) -> -2
                days(201) -> -2
                days(199) -> 2999
                days(1) -> -2
                days(200) -> -2
                days(0) -> -2
                count(4) -> 2999
                """);
        Script.edge("28: 200 DAYS up to the last one", """
                days(199) -> 199
                13 times days(200) -> 2799
                days(200) -> 2999
                days(1) -> -2
                """);
        Script.edge("28: one by one up to the last one", """
                14 times days(200) -> 2800
                198 times days(1) -> 2998
                days(2) -> -2
                days(1) -> 2999
                days(1) -> -2
                """);
        Script.edge("28: what is beyond 2999 never comes", """
                factory(1, 0, 200)
                ship(0, 5)
                take()
                14 times days(200) -> 2800
                # day 2800 modulo 360 is 280: 60 more
                sail(0, 1) -> 0
                shipOf(0, 1) -> 3060
                days(199) -> 2999
                shipOf(0, 0) -> -1
                count(7) -> 1
                """);
    }

    private static void shipsCome() {
        Script.edge("28 (a): BULLION into BULLION, COPIES for that PLACE are READ, all ahead of (c)", """
                factory(1, 0, 20)
                bullion(0, 40)
                ship(0, 5)
                take()
                type buy 0 2
                order(1) -> 0
                letter(0, 2) -> 1
                copy(0, 0)
                copy(1, 0)
                load(0, 40) -> 40
                sail(0, 1)
                days(19)
                stock(1, 0) -> 0
                days(1)
                stock(1, 0) -> 2
                bullion(1, 0) -> 0
                shipOf(0, 4) -> 0
                # a COPY for elsewhere stays aboard
                shipOf(0, 9) -> 1
                entry(0, 0) -> 20
                """);
        Script.edge("28 (a): BALES aboard come into STOCK", Script.atFactory(60, "buy 0 1;buy 3 2;lade 0 1;lade 3 2;sail 3"), """
                days(19)
                stock(0, 0) -> 0
                days(1)
                stock(0, 0) -> 1
                stock(0, 1) -> 0
                stock(0, 3) -> 2
                shipOf(0, 5) -> 0
                shipOf(0, 8) -> 0
                days(1)
                stock(0, 3) -> 2
                """);
    }

    private static void heat() {
        Script.edge("28 (c): HEAT of each SORT is 5 less, ahead of the PARAGRAPHS", Script.atFactory(1000, "buy 0 5 if day<22"), """
                price(1, 0) -> 21
                days(1)
                entry(1, 5) -> 100
                price(1, 0) -> 21
                days(1)
                price(1, 0) -> 20
                """);
        Script.edge("28 (c): HEAT is 0 at least", Script.atFactory(1000, "buy 0 4 if day=20;buy 0 5 if day=21"), """
                price(1, 0) -> 20
                days(1)
                # 4 less 5 is 0: five more make 5
                price(1, 0) -> 21
                """);
        Script.edge("28 (c): 6 less 5 is 1", Script.atFactory(1000, "buy 0 6 if day=20;buy 0 4 if day=21"), """
                days(1)
                price(1, 0) -> 21
                """);
        Script.edge("28 (c): of each SORT", Script.atFactory(1000, "buy 0 5 if day=20;buy 1 5 if day=20;buy 3 5 if day=20"), """
                price(1, 0) -> 21
                price(1, 3) -> 21
                days(1)
                price(1, 0) -> 20
                price(1, 1) -> 20
                price(1, 2) -> 20
                price(1, 3) -> 20
                """);
    }

    /** An advance of so many bales given on day 20: what is to come and what came behind each tenth day. */
    private static void fifths(int bales, int... open) {
        StringBuilder rows = new StringBuilder("open(1, 2) -> " + bales + "\ndays(9)\nopen(1, 2) -> " + bales + "\n");
        for (int i = 0; i < 5; i++) {
            int ahead = i == 0 ? bales : open[i - 1];
            rows.append(i == 0 ? "" : "days(9)\n").append("open(1, 2) -> ").append(ahead).append("\ndays(1)\n");
            rows.append("open(1, 2) -> ").append(open[i]).append("\nstock(1, 2) -> ").append(bales - open[i]).append('\n');
        }
        rows.append("days(10)\nstock(1, 2) -> ").append(bales).append("\nopen(1, 2) -> 0\n");
        Script.edge("28 (c): a fifth of " + bales + " BALES, cut; the fifth time all that are left",
                Script.atFactory(1000, "advance 2 " + bales + " if day=20"), rows.toString());
    }

    private static void fifths() {
        fifths(1, 1, 1, 1, 1, 0);
        fifths(4, 4, 4, 4, 4, 0);
        fifths(5, 4, 3, 2, 1, 0);
        fifths(6, 5, 4, 3, 2, 0);
        fifths(9, 8, 7, 6, 5, 0);
        fifths(10, 8, 6, 4, 2, 0);
        fifths(13, 11, 9, 7, 5, 0);
        Script.edge("28 (c): what comes is there ahead of the PARAGRAPHS", Script.atFactory(90, "advance 0 5;lade 0 9"), """
                days(9)
                shipOf(0, 5) -> 0
                days(1)
                shipOf(0, 5) -> 1
                stock(1, 0) -> 0
                """);
    }

    /** Of each coming SPOILT of 100 (cut) are spoilt; a base of 1 makes many bales cheap. */
    private static void spoilt(int bales, int spoilt, int firstTime, int all) {
        Script.edge("28 (c): SPOILT " + spoilt + " of 100 (cut) of " + bales, "base(1, 2, 1)\nfactory(1, 2, " + spoilt + ")",
                Script.atFactory(1000, "advance 2 " + bales + " if day=20"), "days(10)\nstock(1, 2) -> " + firstTime
                + "\nopen(1, 2) -> " + (bales - bales / 5) + "\ndays(40)\nstock(1, 2) -> " + all + "\nopen(1, 2) -> 0");
    }

    private static void spoilt() {
        spoilt(10, 0, 2, 10);
        spoilt(5, 50, 1, 5);
        spoilt(10, 50, 1, 5);
        spoilt(15, 50, 2, 10);
        spoilt(13, 50, 1, 7);
        spoilt(10, 49, 2, 10);
        spoilt(500, 1, 99, 495);
        spoilt(499, 1, 99, 4 * 99 + 102);
        Script.edge("28 (c): SPOILT as it is when they come", Script.atFactory(1000, "advance 2 10 if day=20"), """
                factory(1, 2, 50) -> 0
                days(10)
                stock(1, 2) -> 1
                factory(1, 2, 0) -> 50
                days(10)
                stock(1, 2) -> 3
                """);
    }

    private static void advances() {
        Script.edge("28 advance: N times PRICE times 9 by 10 is no more than BULLION: just as much",
                Script.atFactory(234, "advance 2 13"), "open(1, 2) -> 13\nbullion(1, 0) -> 0\nentry(0, 5) -> 234");
        Script.edge("28 advance: a coin short", Script.atFactory(233, "advance 2 13"), "open(1, 2) -> 0\ncount(5) -> 0");
        Script.edge("28 advance: BULLION less KEEP: just as much",
                Script.atFactory(239, "keep 5;advance 2 13"), "open(1, 2) -> 13\nbullion(1, 0) -> 5");
        Script.edge("28 advance: BULLION less KEEP: a coin short",
                Script.atFactory(239, "keep 6;advance 2 13"), "open(1, 2) -> 0\nbullion(1, 0) -> 239");
        Script.edge("28 advance: (cut)", "base(1, 2, 1)", Script.atFactory(2, "advance 2 3"),
                "open(1, 2) -> 3\nentry(0, 5) -> 2\nbullion(1, 0) -> 0");
        Script.edge("28 advance: cut to 0 coins", "base(1, 2, 1)", Script.atFactory(0, "advance 2 1"),
                "open(1, 2) -> 1\nentry(0, 5) -> 0\nentry(0, 4) -> 1");
        Script.edge("28 advance: 0 coins are more than BULLION less KEEP, if that is below 0", "base(1, 2, 1)",
                Script.atFactory(0, "keep 1;advance 2 1"), "open(1, 2) -> 0\ncount(5) -> 0");
        Script.edge("28 advance: by PRICE, HEAT too", Script.atFactory(1000, "buy 2 5;advance 2 10"),
                "entry(1, 2) -> 1\nentry(1, 5) -> 189\nprice(1, 2) -> 21");
        Script.edge("28 advance: the most that can be told", "base(1, 2, 999)", "8 times bullion(1, 1000000)",
                Script.atFactory(990101, "advance 2 9999"), """
                entry(0, 5) -> 8990100
                bullion(1, 0) -> 1
                open(1, 2) -> 9999
                days(50)
                stock(1, 2) -> 9999
                """);
        Script.edge("28 advance: the most that can be told, a coin short", "base(1, 2, 999)", "8 times bullion(1, 1000000)",
                Script.atFactory(990099, "advance 2 9999"), "open(1, 2) -> 0");
    }

    private static void advancesOneByOne() {
        Script.edge("28 advance: N 0: nothing", Script.atFactory(100, "advance 2 0"), """
                count(5) -> 0
                open(1, 2) -> 0
                bullion(1, 0) -> 100
                """);
        Script.edge("28 advance: if no ADVANCE of that SORT is open there",
                Script.atFactory(1000, "advance 2 1;advance 2 2;advance 3 4"), """
                open(1, 2) -> 1
                open(1, 3) -> 4
                count(5) -> 2
                days(49)
                count(5) -> 2
                days(1)
                # the fifth time all came, then the next ones are given
                stock(1, 2) -> 1
                stock(1, 3) -> 4
                count(5) -> 4
                open(1, 2) -> 1
                """);
        Script.edge("28 advance: of that SORT is open there, not at another FACTORY", "factory(2, 0, 20)\nbullion(2, 100)",
                Script.ordered("advance 2 1", 2, 0), Script.ordered("advance 2 2", 1, 1), """
                factory(1, 0, 20)
                bullion(1, 100)
                ship(0, 5)
                ship(0, 5)
                2 times take()
                copy(0, 0)
                copy(1, 1)
                sail(0, 2)
                sail(1, 1)
                days(20)
                open(1, 2) -> 2
                open(2, 2) -> 1
                open(3, 2) -> 0
                entry(0, 1) -> 1
                entry(1, 1) -> 2
                """);
    }

    private static void buying() {
        Script.edge("28 buy: PRICE is no more than BULLION: just as much", Script.atFactory(20, "buy 2 5"),
                "stock(1, 2) -> 1\nbullion(1, 0) -> 0\nentry(0, 4) -> 1\nentry(0, 5) -> 20");
        Script.edge("28 buy: a coin short", Script.atFactory(19, "buy 2 5"), "stock(1, 2) -> 0\ncount(5) -> 0");
        Script.edge("28 buy: N times", Script.atFactory(1000, "buy 2 3"), "stock(1, 2) -> 3\nbullion(1, 0) -> 940");
        Script.edge("28 buy: N 0", Script.atFactory(1000, "buy 2 0"), "stock(1, 2) -> 0\ncount(5) -> 0");
        Script.edge("28 buy: PRICE as it is then: the sixth costs 21, a coin short", Script.atFactory(120, "buy 2 9"),
                "stock(1, 2) -> 5\nbullion(1, 0) -> 20");
        Script.edge("28 buy: PRICE as it is then: the sixth costs 21", Script.atFactory(121, "buy 2 9"),
                "stock(1, 2) -> 6\nbullion(1, 0) -> 0\nentry(0, 5) -> 121");
        Script.edge("28 buy: 9999 times", "base(1, 2, 1)", "2 times bullion(1, 1000000)", Script.atFactory(0, "buy 2 9999"), """
                # 1 + HEAT by 5 of HEATS 0 .. 4469: five each of 1 .. 894 make 2000325, too much by 325
                # 894 costs each at the end: one less is 1999431, and there 569 are left
                stock(1, 2) -> 4469
                bullion(1, 0) -> 569
                """);
        Script.edge("28 buy: two PARAGRAPHS of it, one after the other", Script.atFactory(1000, "buy 2 5;buy 2 1"),
                "entry(0, 5) -> 100\nentry(1, 5) -> 21\nentry(1, 7) -> 1");
    }

    private static void keeping() {
        Script.edge("28 keep: BULLION less KEEP: just as much", Script.atFactory(50, "keep 30;buy 0 9"),
                "stock(1, 0) -> 1\nbullion(1, 0) -> 30");
        Script.edge("28 keep: a coin short", Script.atFactory(50, "keep 31;buy 0 9"), "stock(1, 0) -> 0\ncount(5) -> 0");
        Script.edge("28 keep: more than all", Script.atFactory(50, "keep 9999;buy 0 9"), "stock(1, 0) -> 0");
        Script.edge("28 keep: KEEP is N, from there on", Script.atFactory(80, "buy 0 1;keep 60;buy 1 1;keep 0;buy 2 1"),
                "stock(1, 0) -> 1\nstock(1, 1) -> 0\nstock(1, 2) -> 1");
        Script.edge("28 keep: KEEP is 0 ahead of the first one, each DAY", Script.atFactory(60, "buy 0 1;keep 9999"),
                "stock(1, 0) -> 1\ndays(1)\nstock(1, 0) -> 2");
        Script.edge("28 keep: KEEP is 0 ahead of the first one, at each FACTORY",
                "factory(2, 0, 20)\nbullion(2, 20)\nship(0, 5)\ntake()\n", Script.ordered("buy 0 1", 2, 0),
                "copy(0, 0)\nsail(0, 2)\nfactory(1, 0, 20)\nship(0, 5)\ntake()\n", Script.ordered("keep 9999", 1, 1),
                "copy(1, 1)\nsail(1, 1)\ndays(20)\nstock(2, 0) -> 1");
        Script.edge("28 keep: a KEEP whose TESTS do not hold", Script.atFactory(20, "keep 20 if day=21;buy 0 1"),
                "stock(1, 0) -> 1");
    }

    private static void lading() {
        Script.edge("28 lade: N at most", Script.atFactory(1000, "buy 0 5;lade 0 3"), "shipOf(0, 5) -> 3\nstock(1, 0) -> 2");
        Script.edge("28 lade: N 0", Script.atFactory(1000, "buy 0 5;lade 0 0"), "shipOf(0, 5) -> 0\ncount(5) -> 1");
        Script.edge("28 lade: as many as STOCK has", Script.atFactory(1000, "buy 0 2;lade 0 3;lade 1 3"), """
                shipOf(0, 5) -> 2
                stock(1, 0) -> 0
                entry(1, 4) -> 2
                entry(1, 5) -> 0
                # nothing of SORT 1 is there, so nothing is done
                count(5) -> 2
                """);
        Script.edge("28 lade: as TONS leave room for", Script.atFactory(10000, "buy 0 61;lade 0 9999"), """
                shipOf(0, 5) -> 60
                shipOf(0, 2) -> 0
                stock(1, 0) -> 1
                count(5) -> 2
                days(1)
                # a full SHIP gets nothing
                count(5) -> 3
                """);
        Script.edge("28 lade: beside BALES and PRIVATE tons", Script.atFactory(10000, "buy 0 50;buy 1 1;lade 1 1;lade 0 99 if day>20"), """
                person(1, 0) -> 0
                stow(0, 0, 20) -> 20
                days(1)
                # 60 less 20 PRIVATE, less 2 of SORT 1
                shipOf(0, 5) -> 38
                shipOf(0, 6) -> 2
                shipOf(0, 2) -> 0
                """);
        Script.edge("28 lade: the least SHIP there, even if another one has room", """
                factory(1, 0, 20)
                bullion(1, 1000)
                ship(0, 1)
                ship(0, 9)
                2 times take()
                type buy 0 5;lade 0 5
                order(1)
                copy(0, 1)
                sail(0, 1)
                sail(1, 1)
                days(20)
                shipOf(0, 5) -> 1
                shipOf(1, 5) -> 0
                days(1)
                shipOf(1, 5) -> 0
                """);
        Script.edge("28 lade: no SHIP there", Script.atFactory(100, "buy 0 2;lade 0 1;sail 1"), """
                shipOf(0, 0) -> -1
                count(5) -> 3
                days(1)
                # buys, and lades nothing
                count(5) -> 4
                entry(3, 2) -> 0
                """);
    }

    private static void sending() {
        Script.edge("28 sail: N BALES or more: just N", Script.atFactory(1000, "buy 0 1;buy 3 2;lade 0 1;lade 3 2;sail 3"), """
                shipOf(0, 0) -> -1
                voyage(1, 6) -> 1
                voyage(1, 9) -> 2
                entry(4, 2) -> 3
                entry(4, 3) -> -1
                entry(4, 4) -> 1
                entry(4, 5) -> 0
                """);
        Script.edge("28 sail: one BALE less", Script.atFactory(60, "buy 0 1;buy 3 2;lade 0 1;lade 3 2;sail 4"), """
                shipOf(0, 0) -> 1
                count(3) -> 1
                days(1)
                shipOf(0, 0) -> 1
                """);
        Script.edge("28 sail: and one at least: none aboard", Script.atFactory(1000, "sail 0"), """
                shipOf(0, 0) -> 1
                count(5) -> 0
                days(9)
                shipOf(0, 0) -> 1
                """);
        Script.edge("28 sail: and one at least: one aboard", Script.atFactory(1000, "buy 0 1;lade 0 1;sail 0"), """
                shipOf(0, 0) -> -1
                """);
        Script.edge("28 sail: PRIVATE tons are no BALES", Script.atFactory(1000, "sail 1;sail 0"), """
                person(1, 9) -> 0
                stow(0, 0, 20) -> 20
                load(0, 100) -> 100
                days(3)
                shipOf(0, 0) -> 1
                """);
        Script.edge("28 sail: AT SEA for BACK days", "factory(1, 1, 35)", """
                factory(1, 0, 20)
                bullion(1, 20)
                ship(0, 1)
                take()
                type buy 0 1;lade 0 1;sail 1
                order(1)
                copy(0, 0)
                sail(0, 1)
                days(20)
                shipOf(0, 1) -> 55
                days(34)
                shipOf(0, 0) -> -1
                days(1)
                shipOf(0, 0) -> 0
                """);
    }

    private static void sendingOneByOne() {
        String two = """
                factory(1, 0, 20)
                bullion(1, 1000)
                ship(0, 1)
                ship(0, 9)
                2 times take()
                """;
        Script.edge("28 sail: the least SHIP there with N BALES or more", two,
                Script.ordered("buy 0 6;lade 0 5;sail 5 if day=30", 1, 0), """
                copy(0, 1)
                sail(1, 1)
                days(1)
                sail(0, 1)
                days(20)
                shipOf(1, 5) -> 5
                shipOf(0, 5) -> 1
                days(9)
                shipOf(0, 0) -> 1
                shipOf(1, 0) -> -1
                """);
        Script.edge("28 sail: the least of several", two, Script.ordered("buy 0 6;lade 0 1;sail 1 if day=30", 1, 0), """
                copy(0, 1)
                sail(1, 1)
                days(1)
                sail(0, 1)
                days(29)
                shipOf(0, 0) -> -1
                shipOf(1, 0) -> 1
                # one of them a DAY
                count(3) -> 3
                """);
    }

    private static void invoices() {
        String sails = Script.atFactory(1000, "buy 0 1;lade 0 1;sail 1 if day=21");
        Script.edge("28 sail: an INVOICE of its BALES is WRITTEN for the HOUSE, a COPY of it is aboard", sails, """
                days(1)
                paper(1, 0) -> 4
                paper(1, 1) -> 1
                paper(1, 2) -> 21
                paper(1, 3) -> 0
                paper(1, 4) -> 1
                paper(1, 5) -> 1
                known(1, 1) -> 21
                known(1, 0) -> -1
                shipOf(0, 9) -> 1
                voyage(1, 10) -> 1
                days(20)
                known(1, 0) -> 41
                shipOf(0, 9) -> 0
                """);
        Script.edge("28 sail: if there is room for a PAPER: for the last one", sails, """
                148 times letter(0, 1) -> 148
                days(1)
                voyage(1, 10) -> 149
                paper(149, 0) -> 4
                shipOf(0, 9) -> 1
                count(1) -> 150
                """);
        Script.edge("28 sail: else none is", sails, """
                149 times letter(0, 1) -> 149
                days(1)
                shipOf(0, 0) -> -1
                voyage(1, 10) -> -1
                voyage(1, 6) -> 2
                shipOf(0, 9) -> 0
                count(1) -> 150
                entry(4, 2) -> 3
                days(20)
                stock(0, 0) -> 2
                voyage(1, 11) -> 0
                gain() -> 0
                """);
    }

    private static void drawing() {
        Script.edge("28 draw: if BULLION is less than N: one less", Script.atFactory(99, "draw 100"), """
                bullion(1, 0) -> 199
                paper(1, 0) -> 5
                paper(1, 5) -> 100
                bill(1, 0) -> 0
                entry(0, 2) -> 4
                entry(0, 3) -> -1
                entry(0, 4) -> 1
                entry(0, 5) -> 100
                """);
        Script.edge("28 draw: as much", Script.atFactory(100, "draw 100"), """
                bullion(1, 0) -> 100
                count(1) -> 1
                count(5) -> 0
                """);
        Script.edge("28 draw: N 0", Script.atFactory(0, "draw 0"), "count(1) -> 1\ncount(5) -> 0");
        Script.edge("28 draw: the most and the least", Script.atFactory(0, "draw 1;draw 9999"), """
                bullion(1, 0) -> 1
                count(1) -> 2
                """);
        Script.edge("28 draw: 9999", Script.atFactory(9998, "draw 9999"), "bullion(1, 0) -> 19997\npaper(1, 5) -> 9999");
        Script.edge("28 draw: no BILL that was drawn there is open", Script.atFactory(0, "draw 100;draw 200"), """
                bullion(1, 0) -> 100
                count(1) -> 2
                bullion(1, -100) -> 0
                days(9)
                count(1) -> 2
                """);
        Script.edge("28 draw: one that was drawn at another FACTORY does not matter",
                "factory(2, 0, 20)\nship(0, 5)\ntake()\n", Script.ordered("draw 50", 2, 0), "copy(0, 0)\nsail(0, 2)\n",
                "factory(1, 0, 20)\nship(0, 5)\ntake()\n", Script.ordered("draw 70", 1, 1), "copy(1, 1)\nsail(1, 1)\n", """
                days(20)
                bullion(1, 0) -> 70
                bullion(2, 0) -> 50
                # FACTORIES 1 .. 4, one after the other
                paper(2, 1) -> 1
                paper(3, 1) -> 2
                """);
    }

    private static void drawingWithoutRoom() {
        String draws = Script.atFactory(0, "draw 100 if day=21");
        Script.edge("28 draw: if there is room for a PAPER: for the last one", draws, """
                148 times letter(0, 1) -> 148
                days(1)
                bullion(1, 0) -> 100
                bill(149, 0) -> 0
                count(5) -> 1
                """);
        Script.edge("28 draw: without room nothing", draws, """
                149 times letter(0, 1) -> 149
                days(1)
                bullion(1, 0) -> 0
                count(1) -> 150
                count(5) -> 0
                """);
    }

    private static void entries() {
        Script.edge("29: what 0 .. 7. -5: none such", Script.atFactory(20, "keep 0;buy 3 1"), """
                entry(0, 0) -> 20
                entry(0, 1) -> 1
                entry(0, 2) -> 0
                entry(0, 3) -> 3
                entry(0, 4) -> 1
                entry(0, 5) -> 20
                entry(0, 6) -> 0
                entry(0, 7) -> 1
                entry(0, 8) -> -5
                entry(0, -1) -> -5
                entry(1, 0) -> -5
                entry(-1, 0) -> -5
                entry(2147483647, 0) -> -5
                entry(-2147483648, 0) -> -5
                entry(0, 2147483647) -> -5
                """);
        Script.edge("29: each of these (but keep) that did something", Script.atFactory(0, "keep 5;buy 0 1;advance 0 1;lade 0 1;sail 1"), """
                count(5) -> 0
                entry(0, 0) -> -5
                """);
        Script.edge("29: how many of that time, beside what STOCK had; the PAPER and PARAGRAPH", "3 times letter(0, 1)",
                Script.atFactory(1000, "keep 0;buy 2 3", 3), """
                days(1)
                stock(1, 2) -> 6
                entry(1, 0) -> 21
                entry(1, 4) -> 3
                entry(1, 5) -> 60
                entry(1, 6) -> 3
                entry(1, 7) -> 1
                """);
        Script.edge("29: of a COUNCIL its CONSULT, the second one's too", """
                person(1, 0)
                person(1, 0)
                bullion(1, 100)
                council(1, 2, 1, 1, 2) -> 20
                council(1, 2, 2, 1, 2) -> 40
                stock(1, 2) -> 3
                entry(1, 4) -> 2
                entry(1, 6) -> 2
                entry(1, 7) -> -1
                """);
        Script.edge("29: of a COUNCIL its CONSULT, and -1", """
                person(1, 0)
                person(1, 0)
                bullion(1, 100)
                council(1, 2, 3, 1, 2) -> 60
                entry(0, 0) -> 0
                entry(0, 1) -> 1
                entry(0, 2) -> 5
                entry(0, 3) -> 2
                entry(0, 4) -> 3
                entry(0, 5) -> 60
                entry(0, 6) -> 0
                entry(0, 7) -> -1
                """);
    }

    /** Three entries a day from day 20 on: day 186 has 499, 500 and 501. */
    private static void entriesKept() {
        String begin = Script.atFactory(1000000, "buy 0 1;buy 1 1;buy 2 1;buy 3 1 if day=200;lade 3 1;sail 1");
        Script.edge("29: the first 500 are kept", begin, """
                days(165)
                count(5) -> 498
                entry(497, 3) -> 2
                entry(498, 0) -> -5
                days(1)
                count(5) -> 501
                entry(498, 0) -> 186
                entry(498, 3) -> 0
                entry(499, 0) -> 186
                entry(499, 3) -> 1
                entry(500, 0) -> -5
                entry(501, 0) -> -5
                days(1)
                # also those that are not kept
                count(5) -> 504
                entry(499, 0) -> 186
                entry(500, 0) -> -5
                stock(1, 2) -> 168
                """);
        Script.edge("39: ENTRIES that are kept", begin, """
                days(180)
                shipOf(0, 0) -> -1
                count(5) -> 546
                days(20)
                # the INVOICE of day 200 is KNOWN: 500 of 20 coins each
                gain() -> -10000
                """);
    }

    private static void open() {
        Script.edge("30: NONE", Script.atFactory(100, "advance 0 1;advance 3 2"), """
                open(1, 0) -> 1
                open(1, 3) -> 2
                open(1, 4) -> -1
                open(1, -1) -> -1
                open(0, 0) -> -1
                open(5, 0) -> -1
                open(-1, 0) -> -1
                open(4, 3) -> 0
                open(2147483647, 0) -> -1
                open(1, -2147483648) -> -1
                """);
    }
}
