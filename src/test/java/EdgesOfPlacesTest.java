/** The edges of promises 1 to 8 and of the terms behind them, a sentence of the document each. */
public final class EdgesOfPlacesTest {
    public static void main(String[] args) {
        newObject();
        places();
        sorts();
        factories();
        bases();
        prices();
        bullion();
        bullionThatCame();
        persons();
        goings();
        Check.end();
    }

    private static void newObject() {
        Script.edge("1: DAY 0; nobody, no PAPERS, no SHIPS", """
                count(0) -> 0
                count(1) -> 0
                count(2) -> 0
                count(3) -> 0
                count(4) -> 0
                count(5) -> 0
                count(6) -> 0
                count(7) -> 0
                count(8) -> 0
                count(9) -> 0
                count(10) -> 0
                goes(0, 0) -> -1
                known(0, 0) -> -5
                paper(0, 0) -> -5
                shipOf(0, 0) -> -5
                voyage(0, 0) -> -5
                entry(0, 0) -> -5
                bill(0, 0) -> -5
                take() -> -1
                trace(0) -> -1
                taken(0, 0) -> -11
                gain() -> 0
                """);
        Script.edge("1: what is so at first of places", """
                factory(1, 0, 20) -> 120
                factory(4, 1, 20) -> 120
                factory(2, 2, 1) -> 0
                base(3, 3, 1) -> 20
                bullion(0, 0) -> 0
                bullion(4, 0) -> 0
                stock(0, 0) -> 0
                stock(4, 3) -> 0
                price(1, 0) -> 20
                price(4, 3) -> 20
                open(1, 0) -> 0
                force(1) -> 0
                forced(1, 0) -> -1
                holds(1, 0) -> -1
                """);
        Script.edge("1: what is so at first of sales, shares, plans, sheets", """
                wants(0, 0, 0, 0) -> 0
                wants(5, 3, 0, 0) -> 0
                bought(0, 0) -> 0
                bought(5, 1) -> 0
                holder(0, 0) -> 100
                holder(7, 0) -> 100
                holder(7, 1) -> 0
                heard(1, 0, 0) -> -1
                year(0, 0, 0) -> 0
                year(3, 3, 0) -> 0
                cell(0, 0, 0) -> -11
                cell(1, 0, 0) -> -11
                cell(2, 0, 0) -> -11
                order(1) -> -10
                """);
    }

    private static void places() {
        Script.edge("PLACES: 0 the HOUSE, 1 .. 4 FACTORIES", """
                stock(0, 0) -> 0
                stock(4, 0) -> 0
                stock(-1, 0) -> -1
                stock(5, 0) -> -1
                stock(2147483647, 0) -> -1
                stock(-2147483648, 0) -> -1
                bullion(0, 1) -> 1
                bullion(4, 1) -> 1
                bullion(-1, 1) -> -1
                bullion(5, 1) -> -1
                bullion(-2147483648, 1) -> -1
                price(1, 0) -> 20
                price(4, 0) -> 20
                price(0, 0) -> -1
                price(5, 0) -> -1
                price(-1, 0) -> -1
                price(2147483647, 0) -> -1
                open(1, 0) -> 0
                open(4, 0) -> 0
                open(0, 0) -> -1
                open(5, 0) -> -1
                force(1) -> 0
                force(4) -> 0
                force(0) -> -1
                force(5) -> -1
                force(-1) -> -1
                """);
    }

    private static void sorts() {
        Script.edge("STOCK of SORTS 0 .. 3", """
                stock(0, 0) -> 0
                stock(0, 3) -> 0
                stock(0, 4) -> -1
                stock(0, -1) -> -1
                stock(0, 2147483647) -> -1
                stock(0, -2147483648) -> -1
                price(1, 3) -> 20
                price(1, 4) -> -1
                price(1, -1) -> -1
                open(1, 3) -> 0
                open(1, 4) -> -1
                open(1, -1) -> -1
                base(1, 0, 5) -> 20
                base(1, 3, 5) -> 20
                base(1, 4, 5) -> -1
                base(1, -1, 5) -> -1
                """);
    }

    private static void factories() {
        Script.edge("2: OUT 20 .. 240; 120 at first", """
                factory(1, 0, 20) -> 120
                factory(1, 0, 19) -> -2
                factory(1, 0, 240) -> 20
                factory(1, 0, 241) -> -2
                factory(1, 0, 0) -> -2
                factory(1, 0, -20) -> -2
                factory(1, 0, 2147483647) -> -2
                factory(1, 0, -2147483648) -> -2
                factory(1, 0, 30) -> 240
                """);
        Script.edge("2: BACK 20 .. 240; 120 at first", """
                factory(4, 1, 20) -> 120
                factory(4, 1, 19) -> -2
                factory(4, 1, 240) -> 20
                factory(4, 1, 241) -> -2
                factory(4, 1, -1) -> -2
                factory(4, 1, 30) -> 240
                """);
        Script.edge("2: SPOILT of 100; 0 .. 50; 0 at first", """
                factory(2, 2, 50) -> 0
                factory(2, 2, 51) -> -2
                factory(2, 2, 0) -> 50
                factory(2, 2, -1) -> -2
                factory(2, 2, 100) -> -2
                factory(2, 2, 1) -> 0
                """);
        Script.edge("2: NONE: no such FACTORY, what; then BAD", """
                factory(0, 0, 20) -> -1
                factory(5, 0, 20) -> -1
                factory(-1, 0, 20) -> -1
                factory(1, 3, 20) -> -1
                factory(1, -1, 20) -> -1
                factory(0, 0, 19) -> -1
                factory(1, 3, 9999) -> -1
                factory(1, 2147483647, 20) -> -1
                factory(1, 0, 20) -> 120
                factory(4, 2, 50) -> 0
                """);
        Script.edge("2: each FACTORY and each what has its own", """
                factory(1, 0, 20) -> 120
                factory(1, 1, 21) -> 120
                factory(1, 2, 22) -> 0
                factory(2, 0, 23) -> 120
                factory(1, 0, 24) -> 20
                factory(1, 1, 24) -> 21
                factory(1, 2, 24) -> 22
                factory(2, 0, 24) -> 23
                factory(2, 1, 24) -> 120
                """);
    }

    private static void bases() {
        Script.edge("3: BASE 1 .. 999; 20 at first", """
                base(1, 0, 1) -> 20
                base(1, 0, 0) -> -2
                base(1, 0, -1) -> -2
                base(1, 0, 999) -> 1
                base(1, 0, 1000) -> -2
                base(1, 0, 2147483647) -> -2
                price(1, 0) -> 999
                base(1, 0, 20) -> 999
                """);
        Script.edge("3: NONE; BAD", """
                base(0, 0, 5) -> -1
                base(5, 0, 5) -> -1
                base(-1, 0, 0) -> -1
                base(1, 4, 0) -> -1
                base(1, -1, 1000) -> -1
                base(4, 3, 0) -> -2
                base(4, 3, 5) -> 20
                """);
    }

    /** A COUNCIL of one buys at once, which heats. */
    private static void prices() {
        Script.edge("4: PRICE: BASE and HEAT by 5, cut", """
                person(1, 0) -> 0
                bullion(1, 1000) -> 1000
                council(1, 0, 4, 1, 0) -> 80
                price(1, 0) -> 20
                council(1, 0, 1, 1, 0) -> 20
                price(1, 0) -> 21
                council(1, 0, 4, 1, 0) -> 84
                price(1, 0) -> 21
                council(1, 0, 1, 1, 0) -> 21
                price(1, 0) -> 22
                price(1, 1) -> 20
                price(2, 0) -> 20
                """);
        Script.edge("4: BASE alone is not cut by 5", """
                base(1, 0, 999) -> 20
                price(1, 0) -> 999
                base(1, 0, 1) -> 999
                price(1, 0) -> 1
                """);
    }

    private static void bullion() {
        Script.edge("5: BULLION told by hand 0 .. 100000000: the upper bound", """
                100 times bullion(2, 1000000) -> 100000000
                bullion(2, 1) -> -2
                bullion(2, 1000000) -> -2
                bullion(2, 0) -> 100000000
                bullion(2, -1) -> 99999999
                bullion(2, 2) -> -2
                bullion(2, 1) -> 100000000
                bullion(1, 0) -> 0
                """);
        Script.edge("5: BULLION told by hand 0 .. 100000000: the lower bound", """
                bullion(3, -1) -> -2
                bullion(3, 0) -> 0
                bullion(3, 1) -> 1
                bullion(3, -2) -> -2
                bullion(3, -1000000) -> -2
                bullion(3, -1) -> 0
                bullion(3, -1) -> -2
                """);
        Script.edge("5: v is -1000000 .. 1000000", """
                bullion(0, 1000001) -> -2
                bullion(0, 1000000) -> 1000000
                bullion(0, 1000000) -> 2000000
                bullion(0, -1000001) -> -2
                bullion(0, -1000000) -> 1000000
                bullion(0, 2147483647) -> -2
                bullion(0, -2147483648) -> -2
                bullion(0, 0) -> 1000000
                """);
        Script.edge("5: NONE; BAD", """
                bullion(5, 1000001) -> -1
                bullion(-1, -1) -> -1
                bullion(4, 1000001) -> -2
                """);
    }

    /** What ships bring is not told by hand: a PLACE may have more, but then by hand it must come within. */
    private static void bullionThatCame() {
        Script.edge("5: BAD: also if it would not be within its bounds", """
                factory(1, 0, 20)
                ship(0, 1)
                take()
                bullion(0, 2)
                load(0, 2) -> 2
                sail(0, 1) -> 0
                100 times bullion(1, 1000000) -> 100000000
                days(20) -> 20
                bullion(1, 0) -> -2
                bullion(1, 1) -> -2
                bullion(1, -1) -> -2
                bullion(1, -2) -> 100000000
                bullion(1, 0) -> 100000000
                """);
    }

    private static void persons() {
        Script.edge("7: PERSONS 0 .. 19, as they come; FULL", """
                person(0, 0) -> 0
                person(4, 9) -> 1
                17 times person(1, 5) -> 18
                count(0) -> 19
                person(2, 3) -> 19
                person(2, 3) -> -4
                person(0, 0) -> -4
                count(0) -> 20
                goes(19, 0) -> 2
                goes(20, 0) -> -1
                """);
        Script.edge("7: RANK 0 .. 9", """
                person(1, 0) -> 0
                person(1, -1) -> -2
                person(1, 9) -> 1
                person(1, 10) -> -2
                person(1, 2147483647) -> -2
                person(1, -2147483648) -> -2
                count(0) -> 2
                """);
        Script.edge("7: NONE: place; BAD; FULL, the first of them", """
                person(-1, 0) -> -1
                person(5, 0) -> -1
                person(5, 10) -> -1
                20 times person(0, 0) -> 19
                person(5, 0) -> -1
                person(0, 10) -> -2
                person(0, -1) -> -2
                person(0, 9) -> -4
                """);
        Script.edge("7: each sits in the COUNCIL of its PLACE", """
                person(1, 0) -> 0
                person(2, 0) -> 1
                council(1, 0, 1, 1, 0) -> 0
                council(1, 0, 1, 2, 0) -> -2
                council(2, 0, 1, 2, 0) -> 0
                council(2, 0, 1, 1, 0) -> -2
                """);
    }

    private static void goings() {
        Script.edge("8: a PERSON goes to another PLACE: where it was. NONE", """
                goes(0, 0) -> -1
                person(3, 0) -> 0
                goes(0, 4) -> 3
                goes(0, 5) -> -1
                goes(0, -1) -> -1
                goes(1, 0) -> -1
                goes(-1, 0) -> -1
                goes(2147483647, 0) -> -1
                goes(-2147483648, 0) -> -1
                goes(0, 0) -> 4
                goes(0, 0) -> 0
                goes(0, 1) -> 0
                """);
        Script.edge("8: it sits where it is then", """
                person(1, 0) -> 0
                goes(0, 2) -> 1
                council(1, 0, 1, 1, 0) -> -2
                council(2, 0, 1, 1, 0) -> 0
                """);
    }
}
