/** The edges of promises 35 to 41 and of the terms behind them, a sentence of the document each. */
public final class EdgesOfSalesTest {
    /** The HOUSE has 20 BALES of SORT 1 from day 40 on, which cost 430 and are known to. */
    private static final String BALES = Script.atFactory(1000, "buy 1 20 if day=20;lade 1 99;sail 1") + "days(20)\n";

    public static void main(String[] args) {
        wanting();
        selling();
        sellingAll();
        prices();
        bought();
        shares();
        gain();
        gainByInvoices();
        dividing();
        dividends();
        holders();
        Check.end();
    }

    private static void wanting() {
        Script.edge("35: BUYERS 0 .. 5, of a SORT; NONE", """
                wants(0, 0, 1, 1) -> 0
                wants(5, 3, 1, 1) -> 0
                wants(6, 0, 1, 1) -> -1
                wants(-1, 0, 1, 1) -> -1
                wants(0, 4, 1, 1) -> -1
                wants(0, -1, 1, 1) -> -1
                wants(6, 0, 100, 1) -> -1
                wants(0, 4, 1, 1000) -> -1
                wants(2147483647, 0, 1, 1) -> -1
                wants(-2147483648, 0, 1, 1) -> -1
                wants(0, 0, 1, 1) -> 1
                wants(5, 3, 1, 1) -> 1
                wants(5, 2, 1, 1) -> 0
                """);
        Script.edge("35: so many (0 .. 99) up to a LIMIT (0 .. 999); BAD", """
                wants(0, 0, 99, 999) -> 0
                wants(0, 0, 100, 999) -> -2
                wants(0, 0, -1, 999) -> -2
                wants(0, 0, 99, 1000) -> -2
                wants(0, 0, 99, -1) -> -2
                wants(0, 0, 2147483647, 0) -> -2
                wants(0, 0, 0, -2147483648) -> -2
                wants(0, 0, 0, 0) -> 99
                wants(0, 0, 1, 0) -> 0
                """);
        Script.edge("35: a refused one leaves the LIMIT", BALES, """
                wants(0, 1, 9, 50) -> 0
                wants(1, 1, 9, 40) -> 0
                wants(1, 1, 100, 45) -> -2
                wants(1, 1, 9, 1000) -> -2
                sale(1, 1) -> 40
                """);
    }

    private static void selling() {
        Script.edge("36: NONE", BALES, """
                sale(4, 1) -> -1
                sale(-1, 1) -> -1
                sale(4, 0) -> -1
                sale(2147483647, 1) -> -1
                sale(1, 1) -> 0
                """);
        Script.edge("36: n (1 .. 99); BAD", BALES, """
                wants(0, 1, 99, 9)
                sale(1, 0) -> -2
                sale(1, -1) -> -2
                sale(1, 100) -> -2
                sale(0, 100) -> -2
                sale(1, 2147483647) -> -2
                sale(1, -2147483648) -> -2
                stock(0, 1) -> 20
                sale(1, 1) -> 0
                stock(0, 1) -> 19
                """);
        Script.edge("36: STATE: STOCK has not so many", BALES, """
                wants(0, 1, 99, 9)
                sale(1, 21) -> -3
                sale(1, 99) -> -3
                sale(0, 1) -> -3
                sale(1, 20) -> 0
                stock(0, 1) -> 0
                sale(1, 1) -> -3
                bought(0, 0) -> 20
                """);
    }

    private static void sellingAll() {
        Script.edge("36: 99 at once", Script.atFactory(9999, "buy 1 60;lade 1 60;sail 60"), """
                days(20)
                take()
                sail(0, 1)
                days(40)
                stock(0, 1) -> 120
                wants(0, 1, 99, 10) -> 0
                wants(1, 1, 99, 7) -> 0
                sale(1, 100) -> -2
                sale(1, 99) -> 693
                stock(0, 1) -> 21
                wants(0, 1, 0, 0) -> 0
                bought(0, 0) -> 99
                bought(0, 1) -> 693
                """);
        Script.edge("36: as long as somebody WANTS. (What nobody WANTS stays.)", BALES, """
                sale(1, 5) -> 0
                stock(0, 1) -> 20
                wants(0, 1, 3, 9) -> 0
                wants(1, 0, 9, 9) -> 0
                wants(2, 2, 9, 9) -> 0
                sale(1, 5) -> 0
                stock(0, 1) -> 17
                bought(0, 0) -> 3
                bought(1, 0) -> 0
                wants(0, 1, 0, 0) -> 0
                sale(1, 17) -> 0
                stock(0, 1) -> 17
                """);
        Script.edge("36: one that WANTS 0 does not, whatever its LIMIT", BALES, """
                wants(0, 1, 0, 999) -> 0
                wants(1, 1, 2, 10) -> 0
                sale(1, 1) -> 0
                bought(0, 0) -> 0
                bought(1, 0) -> 1
                """);
    }

    private static void prices() {
        Script.edge("36: to the BUYER with the greatest LIMIT, at the greatest LIMIT of the others", BALES, """
                wants(0, 1, 1, 10)
                wants(1, 1, 1, 12)
                wants(2, 1, 1, 11)
                sale(1, 1) -> 11
                bought(1, 0) -> 1
                bought(1, 1) -> 11
                sale(1, 1) -> 10
                bought(2, 1) -> 10
                # 0: nobody does
                sale(1, 1) -> 0
                bought(0, 0) -> 1
                bought(0, 1) -> 0
                sale(1, 1) -> 0
                stock(0, 1) -> 17
                """);
        Script.edge("36: of several the least", BALES, """
                wants(5, 1, 1, 10)
                wants(3, 1, 2, 10)
                wants(4, 1, 1, 10)
                sale(1, 1) -> 10
                bought(3, 0) -> 1
                sale(1, 1) -> 10
                bought(3, 0) -> 2
                sale(1, 1) -> 10
                bought(4, 0) -> 1
                sale(1, 1) -> 0
                bought(5, 0) -> 1
                """);
        Script.edge("36: one alone pays 0, however much it WANTS", BALES, """
                wants(2, 1, 99, 999)
                sale(1, 19) -> 0
                bought(2, 0) -> 19
                bought(2, 1) -> 0
                wants(2, 1, 0, 0) -> 80
                """);
        Script.edge("36: LIMITS of 0 and 999", BALES, """
                wants(0, 1, 9, 999)
                wants(1, 1, 1, 0)
                sale(1, 1) -> 0
                bought(0, 0) -> 1
                wants(2, 1, 1, 999)
                sale(1, 1) -> 999
                bought(0, 1) -> 999
                """);
        Script.edge("36: WANT is 1 less: the last one of a BUYER", BALES, """
                wants(0, 1, 2, 30)
                wants(1, 1, 2, 20)
                # 20, 20, then BUYER 1 alone: 0
                sale(1, 3) -> 40
                bought(0, 0) -> 2
                bought(1, 0) -> 1
                wants(1, 1, 0, 0) -> 1
                """);
    }

    private static void bought() {
        Script.edge("37: what 0, 1. NONE", """
                bought(0, 0) -> 0
                bought(5, 1) -> 0
                bought(6, 0) -> -1
                bought(-1, 0) -> -1
                bought(0, 2) -> -1
                bought(0, -1) -> -1
                bought(2147483647, 0) -> -1
                bought(0, -2147483648) -> -1
                """);
        Script.edge("37: of all SORTS and SALES together", Script.atFactory(100, "buy 0 1;buy 3 1;lade 0 1;lade 3 1;sail 2"), """
                days(20)
                wants(0, 0, 1, 9)
                wants(1, 0, 1, 5)
                wants(0, 3, 1, 9)
                wants(1, 3, 1, 7)
                sale(0, 1) -> 5
                sale(3, 1) -> 7
                bought(0, 0) -> 2
                bought(0, 1) -> 12
                count(8) -> 12
                bullion(0, 0) -> 12
                """);
    }

    private static void shares() {
        Script.edge("38: HOLDERS 0 .. 7 (100 each at first); NONE", """
                shares(0, 7, 1) -> 101
                shares(7, 0, 1) -> 100
                shares(8, 0, 1) -> -1
                shares(-1, 0, 1) -> -1
                shares(0, 8, 1) -> -1
                shares(0, -1, 1) -> -1
                shares(8, 8, 0) -> -1
                shares(0, 8, 0) -> -1
                shares(2147483647, 0, 1) -> -1
                holder(0, 0) -> 100
                """);
        Script.edge("38: BAD: n is not 1 .. what the first one has", """
                shares(0, 1, 0) -> -2
                shares(0, 1, -1) -> -2
                shares(0, 1, 101) -> -2
                shares(0, 1, 2147483647) -> -2
                shares(0, 1, -2147483648) -> -2
                shares(0, 1, 100) -> 200
                shares(0, 1, 1) -> -2
                shares(0, 1, 0) -> -2
                shares(1, 0, 201) -> -2
                shares(1, 0, 200) -> 200
                holder(1, 0) -> 0
                """);
        Script.edge("38: BAD: they are one", """
                shares(0, 0, 1) -> -2
                shares(7, 7, 100) -> -2
                shares(7, 7, 0) -> -2
                holder(7, 0) -> 100
                """);
    }

    private static void gain() {
        Script.edge("39: nothing at first, then SALES, less ENTRIES, less DIVIDENDS", BALES, """
                gain() -> -430
                wants(0, 1, 99, 500)
                wants(1, 1, 99, 400)
                sale(1, 2) -> 800
                gain() -> 370
                divide(370) -> 368
                gain() -> 2
                """);
    }

    private static void gainByInvoices() {
        Script.edge("39: an INVOICE WRITTEN there on that DAY or later is KNOWN at the HOUSE",
                Script.atFactory(1000, "buy 0 1 if day<23;lade 0 1;sail 2"), """
                # days 20, 21, 22 buy; the INVOICE is of day 21
                days(1)
                voyage(1, 3) -> 21
                days(19) -> 40
                gain() -> 0
                days(1) -> 41
                known(1, 0) -> 41
                gain() -> -40
                days(100)
                gain() -> -40
                count(5) -> 6
                """);
        Script.edge("39: without an INVOICE nothing is known, of DAY 0 neither", """
                person(1, 0)
                bullion(1, 100)
                council(1, 0, 1, 1, 0) -> 20
                gain() -> 0
                letter(1, 0) -> 1
                gain() -> 0
                """);
        Script.edge("39: of one that is LOST nothing is KNOWN", Script.atFactory(1000, "buy 0 1;lade 0 1;sail 1"), """
                lose(1) -> 1
                days(20)
                gain() -> 0
                """);
        Script.edge("39: buy, advance, COUNCIL; of draw and others nothing",
                Script.atFactory(300, "draw 301;buy 0 1;advance 1 10;lade 0 1;sail 1"), """
                person(1, 0)
                council(1, 2, 1, 1, 0) -> 20
                council(1, 2, 1, 1, 0) -> 20
                days(20)
                # the COUNCIL met on the DAY of the INVOICE; buying of days 21 and on is not known
                gain() -> -240
                """);
        Script.edge("39: at FACTORIES of which: each for itself", "bullion(2, 100)\nperson(2, 0)\ncouncil(2, 0, 1, 1, 0) -> 20",
                Script.atFactory(20, "buy 0 1;lade 0 1;sail 1", 1), """
                days(20)
                # what FACTORY 2 spent is not KNOWN
                gain() -> -20
                """);
    }

    private static void dividing() {
        String rich = BALES + "wants(0, 1, 99, 999)\nwants(1, 1, 99, 900)\nsale(1, 1) -> 900\ngain() -> 470\n";
        Script.edge("40: BAD: c is below 0", rich, """
                divide(-1) -> -2
                divide(-2147483648) -> -2
                divide(0) -> 0
                count(9) -> 0
                """);
        Script.edge("40: BAD: or more than GAIN", rich, """
                divide(471) -> -2
                divide(2147483647) -> -2
                bullion(0, 0) -> 900
                divide(470) -> 464
                gain() -> 6
                divide(7) -> -2
                divide(6) -> 0
                """);
        Script.edge("40: BAD: or BULLION of the HOUSE", rich, """
                bullion(0, -800) -> 100
                divide(101) -> -2
                divide(470) -> -2
                divide(100) -> 96
                bullion(0, 0) -> 4
                gain() -> 374
                divide(5) -> -2
                divide(4) -> 0
                """);
        Script.edge("40: GAIN of 0, and below 0", """
                divide(0) -> 0
                divide(1) -> -2
                bullion(0, 1000)
                divide(1) -> -2
                """);
        Script.edge("40: with a loss not even 0", BALES, """
                bullion(0, 1000)
                gain() -> -430
                divide(0) -> -2
                divide(1) -> -2
                """);
    }

    private static void dividends() {
        String rich = BALES + "wants(0, 1, 99, 999)\nwants(1, 1, 99, 900)\nsale(1, 1) -> 900\n";
        Script.edge("40: each HOLDER gets c times SHARES by all SHARES, cut; that is paid", rich, """
                divide(7) -> 0
                divide(8) -> 8
                divide(15) -> 8
                divide(16) -> 16
                holder(0, 1) -> 4
                holder(7, 1) -> 4
                count(9) -> 32
                bullion(0, 0) -> 868
                """);
        Script.edge("40: by what each has", rich, """
                shares(0, 1, 100) -> 200
                shares(2, 3, 1) -> 101
                divide(8) -> 7
                holder(0, 1) -> 0
                holder(1, 1) -> 2
                holder(2, 1) -> 0
                holder(3, 1) -> 1
                holder(4, 1) -> 1
                """);
        Script.edge("40: one HOLDER of all", rich, """
                shares(1, 0, 100)
                shares(2, 0, 100)
                shares(3, 0, 100)
                shares(4, 0, 100)
                shares(5, 0, 100)
                shares(6, 0, 100)
                shares(7, 0, 100) -> 800
                divide(1) -> 1
                shares(0, 1, 1) -> 1
                # 799 of 800 by 1 coin is nothing
                divide(1) -> 0
                shares(1, 0, 1) -> 800
                divide(469) -> 469
                gain() -> 0
                divide(1) -> -2
                holder(0, 1) -> 470
                """);
    }

    private static void holders() {
        Script.edge("41: what 0, 1. NONE", """
                holder(0, 0) -> 100
                holder(7, 1) -> 0
                holder(8, 0) -> -1
                holder(-1, 0) -> -1
                holder(0, 2) -> -1
                holder(0, -1) -> -1
                holder(2147483647, 0) -> -1
                holder(0, -2147483648) -> -1
                """);
    }
}
