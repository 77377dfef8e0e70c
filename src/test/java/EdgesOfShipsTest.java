/** The edges of promises 19 to 27 and of the terms behind them, a sentence of the document each. */
public final class EdgesOfShipsTest {
    private static final String BUYS_AND_SAILS = "buy 0 3;lade 0 9;sail 1";

    public static void main(String[] args) {
        ships();
        takingUp();
        takenUpAway();
        loading();
        loadingBounds();
        loadingAtNoPlace();
        stowing();
        stowingFull();
        stowedAway();
        sailing();
        winter();
        fullOfVoyages();
        losing();
        ofShips();
        gone();
        ofVoyages();
        joined();
        beyond();
        recounting();
        Check.end();
    }

    private static void ships() {
        Script.edge("19: SHIPS 0 .. 7, as they come; FULL", """
                ship(0, 1) -> 0
                6 times ship(1, 60) -> 6
                ship(3, 5) -> 7
                ship(3, 5) -> -4
                ship(0, 1) -> -4
                count(2) -> 8
                shipOf(7, 2) -> 5
                shipOf(8, 0) -> -5
                """);
        Script.edge("19: an OWNER (0 .. 3), TONS (1 .. 60)", """
                ship(0, 1) -> 0
                ship(3, 60) -> 1
                ship(-1, 5) -> -1
                ship(4, 5) -> -1
                ship(0, 0) -> -2
                ship(0, -1) -> -2
                ship(0, 61) -> -2
                ship(0, 2147483647) -> -2
                ship(-2147483648, 5) -> -1
                count(2) -> 2
                shipOf(0, 2) -> 1
                shipOf(1, 2) -> 60
                """);
        Script.edge("19: NONE: owner; BAD; FULL, the first of them", """
                ship(4, 61) -> -1
                ship(-1, 0) -> -1
                8 times ship(0, 5) -> 7
                ship(4, 5) -> -1
                ship(0, 61) -> -2
                ship(0, 0) -> -2
                ship(0, 5) -> -4
                """);
        Script.edge("19: at the HOUSE at first, not TAKEN UP", """
                ship(0, 7) -> 0
                shipOf(0, 0) -> 0
                shipOf(0, 1) -> -1
                shipOf(0, 2) -> 7
                shipOf(0, 3) -> 0
                shipOf(0, 4) -> 0
                shipOf(0, 9) -> 0
                shipOf(0, 10) -> -1
                """);
    }

    private static void takingUp() {
        Script.edge("20: NONE: there is none", """
                take() -> -1
                ship(0, 5) -> 0
                take() -> 0
                shipOf(0, 3) -> 1
                take() -> -1
                """);
        Script.edge("20: of which the OWNER has the fewest TURNS", """
                ship(0, 5) -> 0
                ship(0, 5) -> 1
                ship(0, 5) -> 2
                take() -> 0
                take() -> 1
                ship(3, 5) -> 3
                ship(3, 5) -> 4
                ship(3, 5) -> 5
                # OWNER 3 had no turn, then one, then as many as OWNER 0
                take() -> 3
                take() -> 4
                take() -> 2
                take() -> 5
                take() -> -1
                """);
        Script.edge("20: of several the least OWNER", """
                ship(3, 5) -> 0
                ship(2, 5) -> 1
                ship(1, 5) -> 2
                ship(0, 5) -> 3
                take() -> 3
                take() -> 2
                take() -> 1
                take() -> 0
                """);
        Script.edge("20: then the least SHIP", """
                ship(2, 5) -> 0
                ship(2, 60) -> 1
                ship(2, 1) -> 2
                take() -> 0
                take() -> 1
                take() -> 2
                """);
    }

    private static void takenUpAway() {
        Script.edge("20: of SHIPS at the HOUSE", Script.atFactory(1000, BUYS_AND_SAILS), """
                shipOf(0, 0) -> -1
                take() -> -1
                days(19)
                take() -> -1
                shipOf(0, 3) -> 1
                days(1)
                # When a SHIP comes back to the HOUSE it is not TAKEN UP any more
                shipOf(0, 0) -> 0
                shipOf(0, 3) -> 0
                ship(1, 5) -> 1
                # OWNER 0 had a turn
                take() -> 1
                take() -> 0
                """);
        Script.edge("20: at a FACTORY it is TAKEN UP still", Script.atFactory(0, "keep 1"), """
                shipOf(0, 0) -> 1
                shipOf(0, 3) -> 1
                take() -> -1
                """);
    }

    private static void loading() {
        Script.edge("21: NONE", """
                load(0, 0) -> -1
                ship(0, 5) -> 0
                load(1, 0) -> -1
                load(-1, 0) -> -1
                load(2147483647, 0) -> -1
                load(-2147483648, 0) -> -1
                load(0, 0) -> 0
                """);
        Script.edge("21: BAD: also if there is not so much, to come aboard", """
                ship(0, 5) -> 0
                load(0, 1) -> -2
                bullion(0, 7) -> 7
                load(0, 8) -> -2
                load(0, 2147483647) -> -2
                load(0, 7) -> 7
                load(0, 1) -> -2
                bullion(0, 0) -> 0
                load(0, 0) -> 7
                """);
        Script.edge("21: BAD: also if there is not so much, to go ashore", """
                ship(0, 5) -> 0
                load(0, -1) -> -2
                bullion(0, 7) -> 7
                load(0, 5) -> 5
                load(0, -6) -> -2
                load(0, -2147483648) -> -2
                load(0, -2147483647) -> -2
                load(0, -5) -> 0
                bullion(0, 0) -> 7
                load(0, -1) -> -2
                """);
    }

    private static void loadingBounds() {
        Script.edge("21: BAD: or it would be beyond: a PLACE has 100000000 at most", """
                ship(0, 5) -> 0
                bullion(0, 2) -> 2
                load(0, 2) -> 2
                99 times bullion(0, 1000000) -> 99000000
                bullion(0, 999999) -> 99999999
                load(0, -2) -> -2
                load(0, -1) -> 1
                bullion(0, 0) -> 100000000
                load(0, -1) -> -2
                load(0, 0) -> 1
                load(0, 1) -> 2
                bullion(0, 0) -> 99999999
                """);
        Script.edge("21: a SHIP has no bound", """
                ship(0, 5) -> 0
                100 times bullion(0, 1000000) -> 100000000
                load(0, 100000000) -> 100000000
                100 times bullion(0, 1000000) -> 100000000
                load(0, 100000000) -> 200000000
                bullion(0, 1000000) -> 1000000
                load(0, 1000001) -> -2
                load(0, 1000000) -> 201000000
                load(0, -100000001) -> -2
                load(0, -100000000) -> 101000000
                load(0, -1) -> -2
                """);
        Script.edge("21: where a SHIP brought a PLACE beyond, all that there is comes aboard", """
                factory(1, 0, 20)
                ship(0, 5) -> 0
                take()
                bullion(0, 2)
                load(0, 2) -> 2
                sail(0, 1)
                100 times bullion(1, 1000000) -> 100000000
                days(20)
                shipOf(0, 4) -> 0
                load(0, -1) -> -2
                load(0, 0) -> 0
                load(0, 100000003) -> -2
                load(0, 1) -> 1
                load(0, -1) -> -2
                load(0, 100000001) -> 100000002
                bullion(1, 0) -> 0
                """);
    }

    private static void loadingAtNoPlace() {
        Script.edge("21: STATE: it is at no PLACE", """
                factory(1, 0, 20)
                bullion(0, 9)
                bullion(1, 9)
                ship(0, 5) -> 0
                take() -> 0
                load(0, 4) -> 4
                sail(0, 1) -> 0
                load(0, 0) -> -3
                load(0, 1) -> -3
                load(0, -1) -> -3
                load(0, 1000) -> -3
                lose(0) -> 1
                days(19)
                load(0, 0) -> -3
                days(1)
                shipOf(0, 0) -> -2
                load(0, 0) -> -3
                load(0, 1) -> -3
                load(0, -1) -> -3
                """);
        Script.edge("21: it comes from the PLACE where the SHIP is", """
                factory(1, 0, 20)
                bullion(0, 9)
                bullion(1, 5)
                ship(0, 5)
                take()
                sail(0, 1)
                days(20)
                load(0, 6) -> -2
                load(0, 5) -> 5
                bullion(1, 0) -> 0
                bullion(0, 0) -> 9
                """);
    }

    private static void stowing() {
        Script.edge("22: NONE", """
                stow(0, 0, 1) -> -1
                person(0, 5) -> 0
                stow(0, 0, 1) -> -1
                ship(0, 60) -> 0
                stow(1, 0, 1) -> -1
                stow(-1, 0, 1) -> -1
                stow(0, 1, 1) -> -1
                stow(0, -1, 1) -> -1
                stow(20, 0, 1) -> -1
                stow(0, 8, 1) -> -1
                stow(1, 0, 21) -> -1
                stow(0, 1, -1) -> -1
                stow(0, 0, 1) -> 1
                """);
        Script.edge("22: PRIVATE tons (0 .. 20)", """
                person(0, 5) -> 0
                ship(0, 60) -> 0
                stow(0, 0, 0) -> 0
                stow(0, 0, 20) -> 20
                stow(0, 0, 21) -> -2
                stow(0, 0, -1) -> -2
                stow(0, 0, 2147483647) -> -2
                stow(0, 0, -2147483648) -> -2
                shipOf(0, 2) -> 40
                """);
        Script.edge("22: STATE: the SHIP is not at its PLACE", """
                factory(1, 0, 20)
                person(1, 5) -> 0
                person(0, 5) -> 1
                ship(0, 60) -> 0
                take()
                stow(0, 0, 1) -> -3
                stow(0, 0, 0) -> -3
                stow(0, 0, 21) -> -2
                stow(1, 0, 1) -> 1
                sail(0, 1)
                stow(0, 0, 1) -> -3
                stow(1, 0, 1) -> -3
                days(20)
                stow(1, 0, 1) -> -3
                stow(0, 0, 1) -> 1
                """);
    }

    private static void stowingFull() {
        Script.edge("22: FULL: TONS", """
                person(0, 5) -> 0
                person(0, 5) -> 1
                person(1, 5) -> 2
                ship(0, 21) -> 0
                stow(0, 0, 20) -> 20
                stow(1, 0, 2) -> -4
                stow(0, 0, 20) -> -4
                stow(2, 0, 20) -> -3
                stow(1, 0, 21) -> -2
                stow(1, 0, 1) -> 1
                shipOf(0, 2) -> 0
                stow(1, 0, 1) -> -4
                stow(1, 0, 0) -> 1
                """);
        Script.edge("22: beside what it has there: its tons", """
                person(0, 5) -> 0
                person(0, 5) -> 1
                ship(0, 60) -> 0
                ship(0, 60) -> 1
                stow(0, 0, 20) -> 20
                stow(0, 0, 20) -> 40
                stow(1, 0, 3) -> 3
                stow(0, 1, 4) -> 4
                stow(0, 0, 17) -> 57
                stow(0, 0, 1) -> -4
                """);
        Script.edge("22: TONS beside BALES", Script.atFactory(10000, "buy 0 59;lade 0 58"), """
                person(1, 5) -> 0
                shipOf(0, 2) -> 2
                stow(0, 0, 3) -> -4
                stow(0, 0, 2) -> 2
                shipOf(0, 2) -> 0
                """);
    }

    private static void stowedAway() {
        Script.edge("22: PRIVATE tons are landed", """
                factory(1, 0, 20)
                person(0, 5) -> 0
                ship(0, 10) -> 0
                take()
                stow(0, 0, 10) -> 10
                sail(0, 1)
                shipOf(0, 2) -> 0
                days(20)
                shipOf(0, 2) -> 10
                goes(0, 1) -> 0
                stow(0, 0, 1) -> 1
                """);
    }

    private static void sailing() {
        Script.edge("23: NONE: ship, factory", """
                sail(0, 1) -> -1
                ship(0, 5) -> 0
                take() -> 0
                sail(1, 1) -> -1
                sail(-1, 1) -> -1
                sail(0, 0) -> -1
                sail(0, 5) -> -1
                sail(0, -1) -> -1
                sail(2147483647, 1) -> -1
                sail(0, -2147483648) -> -1
                count(3) -> 0
                sail(0, 4) -> 0
                voyage(0, 2) -> 4
                """);
        Script.edge("23: STATE: it is not at the HOUSE, or not TAKEN UP", """
                factory(1, 0, 20)
                ship(0, 5) -> 0
                sail(0, 1) -> -3
                sail(0, 0) -> -1
                take() -> 0
                sail(0, 1) -> 0
                sail(0, 1) -> -3
                sail(0, 2) -> -3
                days(20)
                shipOf(0, 0) -> 1
                sail(0, 2) -> -3
                sail(0, 1) -> -3
                count(3) -> 1
                """);
        Script.edge("23: STATE: it is GONE", """
                ship(0, 5)
                take()
                sail(0, 1) -> 0
                lose(0) -> 1
                days(120)
                shipOf(0, 0) -> -2
                shipOf(0, 3) -> 1
                sail(0, 1) -> -3
                """);
        Script.edge("23: AT SEA for OUT days, as they are when it leaves", """
                factory(1, 0, 20)
                ship(0, 5)
                ship(0, 5)
                2 times take()
                sail(0, 1) -> 0
                factory(1, 0, 240) -> 20
                sail(1, 1) -> 1
                shipOf(0, 1) -> 20
                shipOf(1, 1) -> 240
                days(19)
                shipOf(0, 0) -> -1
                days(1)
                shipOf(0, 0) -> 1
                shipOf(0, 1) -> -1
                """);
    }

    /** 60 more if it leaves on a DAY that modulo 360 is 240 or more. */
    private static void winter() {
        int[][] due = {{239, 20}, {240, 80}, {359, 80}, {360, 20}, {361, 20}, {599, 20}, {600, 80}, {719, 80}, {720, 20},
            {2639, 20}, {2640 + 120, 80}};
        for (int[] row : due) {
            Script.edge("23: leaves the HOUSE on DAY " + row[0], "factory(1, 0, 20)\nship(0, 5)\ntake()\n", passing(row[0]),
                    "sail(0, 1) -> 0\nshipOf(0, 1) -> " + (row[0] + row[1]) + "\nvoyage(0, 4) -> " + (row[0] + row[1]));
        }
        int[][] back = {{239, 20}, {240, 80}, {359, 80}, {0, 20}};
        for (int[] row : back) {
            int day = row[0] == 0 ? 360 : row[0];
            Script.edge("28: leaves a FACTORY on DAY " + day,
                    Script.atFactory(1000, "buy 0 1;lade 0 1;sail 1 if day=" + row[0]), passing(day - 20),
                    "voyage(1, 3) -> " + day + "\nvoyage(1, 4) -> " + (day + row[1]));
        }
    }

    private static String passing(int days) {
        StringBuilder rows = new StringBuilder();
        for (int left = days; left > 0; left -= 200) {
            rows.append("days(").append(Math.min(left, 200)).append(")\n");
        }
        return rows.toString();
    }

    /** Eight ships of a ton go to and fro six times; the longest winter takes 80 days each way, and 8 to lade all. */
    private static void fullOfVoyages() {
        String begin = """
                factory(1, 0, 20)
                factory(1, 1, 20)
                bullion(1, 1000000)
                8 times ship(0, 1)
                type buy 0 1;lade 0 1;sail 1
                order(1)
                copy(0, 0)
                """;
        StringBuilder rounds = new StringBuilder();
        for (int round = 0; round < 6; round++) {
            rounds.append("8 times take()\n");
            for (int ship = 0; ship < 8; ship++) {
                rounds.append("sail(").append(ship).append(", 1)\n");
            }
            rounds.append("days(170)\n");
        }
        Script.edge("23: 99 VOYAGES at most; FULL: 99 VOYAGES were", begin, rounds.toString(), """
                count(3) -> 96
                4 times take() -> 3
                sail(0, 1) -> 96
                sail(1, 1) -> 97
                sail(2, 1) -> 98
                sail(3, 1) -> -4
                # NONE and STATE ahead of FULL
                sail(3, 0) -> -1
                sail(8, 1) -> -1
                sail(0, 1) -> -3
                sail(4, 1) -> -3
                count(3) -> 99
                voyage(98, 0) -> 2
                voyage(99, 0) -> -5
                lose(99) -> -1
                recount(99, 0, 0) -> -1
                days(90)
                # behind 99 VOYAGES none leaves a FACTORY either
                count(3) -> 99
                shipOf(0, 0) -> 1
                shipOf(0, 5) -> 1
                shipOf(2, 0) -> 1
                shipOf(2, 5) -> 0
                sail(3, 1) -> -4
                """);
    }

    private static void losing() {
        Script.edge("24: NONE; STATE: it is at its end, or was told so", """
                factory(1, 0, 20)
                lose(0) -> -1
                ship(0, 5)
                ship(0, 5)
                2 times take()
                sail(0, 1) -> 0
                sail(1, 1) -> 1
                lose(2) -> -1
                lose(-1) -> -1
                lose(2147483647) -> -1
                lose(-2147483648) -> -1
                lose(0) -> 1
                lose(0) -> -3
                voyage(0, 5) -> 1
                voyage(1, 5) -> 0
                days(20)
                lose(0) -> -3
                lose(1) -> -3
                shipOf(0, 0) -> -2
                shipOf(1, 0) -> 1
                """);
        Script.edge("24: ahead of its end: on the day before it comes", """
                factory(1, 0, 20)
                ship(0, 5)
                take()
                sail(0, 1) -> 0
                days(19)
                lose(0) -> 1
                shipOf(0, 0) -> -1
                days(1)
                shipOf(0, 0) -> -2
                """);
        Script.edge("24: a VOYAGE home", Script.atFactory(1000, BUYS_AND_SAILS), """
                lose(0) -> -3
                lose(1) -> 1
                lose(1) -> -3
                days(19)
                voyage(1, 11) -> 1
                days(1)
                voyage(1, 11) -> 2
                stock(0, 0) -> 0
                known(1, 0) -> -1
                lose(1) -> -3
                """);
    }

    private static void ofShips() {
        Script.edge("25: what 0 .. 10. -5: none such", """
                shipOf(0, 0) -> -5
                ship(0, 5) -> 0
                shipOf(0, 0) -> 0
                shipOf(0, 10) -> -1
                shipOf(0, 11) -> -5
                shipOf(0, -1) -> -5
                shipOf(1, 0) -> -5
                shipOf(-1, 0) -> -5
                shipOf(0, 2147483647) -> -5
                shipOf(0, -2147483648) -> -5
                shipOf(2147483647, 0) -> -5
                """);
        Script.edge("25: BALES of SORTS 0 .. 3",
                Script.atFactory(1000, "buy 0 1;buy 3 2;lade 0 1;lade 3 2"), """
                shipOf(0, 5) -> 1
                shipOf(0, 6) -> 0
                shipOf(0, 7) -> 0
                shipOf(0, 8) -> 2
                shipOf(0, 2) -> 57
                """);
        Script.edge("25: -1 AT SEA, the DAY on which it comes (-1: not AT SEA)", """
                factory(2, 0, 25)
                ship(0, 5)
                take()
                shipOf(0, 1) -> -1
                sail(0, 2) -> 0
                shipOf(0, 0) -> -1
                shipOf(0, 1) -> 25
                shipOf(0, 10) -> 0
                count(7) -> 1
                days(25)
                shipOf(0, 0) -> 2
                shipOf(0, 1) -> -1
                shipOf(0, 10) -> 0
                count(7) -> 0
                """);
    }

    private static void gone() {
        Script.edge("25: -2 GONE, with all aboard", """
                factory(1, 0, 20)
                letter(0, 1) -> 0
                person(0, 5)
                bullion(0, 9)
                ship(0, 5)
                take()
                copy(0, 0) -> 1
                load(0, 9) -> 9
                stow(0, 0, 2) -> 2
                sail(0, 1) -> 0
                lose(0) -> 1
                days(20)
                shipOf(0, 0) -> -2
                shipOf(0, 1) -> -1
                shipOf(0, 2) -> 5
                shipOf(0, 3) -> 1
                shipOf(0, 4) -> 0
                shipOf(0, 9) -> 0
                shipOf(0, 10) -> 0
                bullion(1, 0) -> 0
                known(0, 1) -> -1
                paper(0, 4) -> 1
                take() -> -1
                stow(0, 0, 1) -> -3
                """);
    }

    private static void ofVoyages() {
        Script.edge("26: what 0 .. 12. -5: none such", Script.atFactory(1000, "buy 3 2;lade 3 2;sail 2"), """
                voyage(1, 0) -> 0
                voyage(1, 1) -> 1
                voyage(1, 2) -> 0
                voyage(1, 3) -> 20
                voyage(1, 4) -> 40
                voyage(1, 5) -> 0
                voyage(1, 6) -> 0
                voyage(1, 7) -> 0
                voyage(1, 8) -> 0
                voyage(1, 9) -> 2
                voyage(1, 10) -> 1
                voyage(1, 11) -> 1
                voyage(1, 12) -> 0
                voyage(1, 13) -> -5
                voyage(1, -1) -> -5
                voyage(2, 0) -> -5
                voyage(-1, 0) -> -5
                voyage(2147483647, 0) -> -5
                voyage(0, -2147483648) -> -5
                """);
        Script.edge("26: from a FACTORY; else -1, else 0", """
                factory(1, 0, 20)
                person(0, 0)
                ship(0, 20)
                take()
                stow(0, 0, 20) -> 20
                sail(0, 1) -> 0
                voyage(0, 10) -> -1
                voyage(0, 11) -> -1
                voyage(0, 12) -> 0
                days(20)
                voyage(0, 11) -> -1
                voyage(0, 12) -> 0
                """);
    }

    private static void joined() {
        Script.edge("26: JOINED BOOKS: 1 on the sea (told LOST or not), then 0", Script.atFactory(1000, BUYS_AND_SAILS), """
                voyage(1, 11) -> 1
                days(19)
                voyage(1, 11) -> 1
                days(1)
                voyage(1, 11) -> 0
                """);
        Script.edge("26: JOINED BOOKS: 1, told LOST, then 2: its SHIP is GONE on it", Script.atFactory(1000, BUYS_AND_SAILS), """
                lose(1) -> 1
                voyage(1, 11) -> 1
                days(19)
                voyage(1, 11) -> 1
                days(1)
                voyage(1, 11) -> 2
                recount(1, 0, 3) -> -3
                voyage(1, 11) -> 2
                """);
        Script.edge("26: JOINED BOOKS: GONE on another VOYAGE", Script.atFactory(1000, BUYS_AND_SAILS), """
                days(20)
                take() -> 0
                sail(0, 1) -> 2
                lose(2) -> 1
                days(20)
                shipOf(0, 0) -> -2
                voyage(1, 11) -> 0
                voyage(2, 11) -> -1
                voyage(0, 11) -> -1
                """);
        for (int sort = 0; sort < 4; sort++) {
            Script.edge("26: JOINED BOOKS: the same of each SORT, of " + sort,
                    Script.atFactory(1000, "buy 0 1;buy 1 1;buy 2 1;buy 3 1;lade 1 1") + Script.ordered(
                            "lade 0 1;lade 2 1;lade 3 1;sail 4", 1, 1), """
                    ship(0, 1)
                    take()
                    copy(1, 1)
                    sail(1, 1)
                    days(40)
                    voyage(2, 11) -> 0
                    recount(2, %1$d, 2)
                    voyage(2, 11) -> 3
                    recount(2, %1$d, 0) -> 2
                    voyage(2, 11) -> 3
                    """.formatted(sort));
        }
    }

    /** A voyage home on day 21 with one bale, and what persons of these ranks at factory 1 stowed. */
    private static void beyond(int due, int rank, int tons) {
        Script.edge("26: BEYOND of RANK " + rank + ", tons " + tons,
                Script.atFactory(1000, "buy 0 1;lade 0 1;sail 1 if day=21"),
                "person(1, " + rank + ")\nstow(0, 0, " + tons + ")\ndays(1)\nvoyage(1, 12) -> " + due);
    }

    private static void beyond() {
        // RANK by 2 (cut) tons are a PERSON's right; if that is above 0.
        beyond(0, 0, 0);
        beyond(1, 0, 1);
        beyond(1, 1, 1);
        beyond(0, 2, 1);
        beyond(1, 2, 2);
        beyond(1, 3, 2);
        beyond(0, 8, 4);
        beyond(0, 9, 0);
        beyond(0, 9, 4);
        beyond(1, 9, 5);
        beyond(16, 9, 20);
        String begin = Script.atFactory(1000, "buy 0 1;lade 0 1;sail 1 if day=21");
        Script.edge("26: the rights of all PERSONS who were at that FACTORY then", begin, """
                person(1, 4) -> 0
                person(1, 6) -> 1
                person(2, 9) -> 2
                person(0, 9) -> 3
                stow(0, 0, 6) -> 6
                days(1)
                voyage(1, 12) -> 1
                """);
        Script.edge("26: the rights of all twenty", begin, """
                19 times person(1, 0) -> 18
                person(1, 9) -> 19
                stow(19, 0, 7) -> 7
                days(1)
                voyage(1, 12) -> 3
                """);
        Script.edge("26: of one who went away the tons count, the right does not", begin, """
                person(1, 9) -> 0
                stow(0, 0, 6) -> 6
                goes(0, 2) -> 1
                days(1)
                voyage(1, 12) -> 6
                goes(0, 1) -> 2
                voyage(1, 12) -> 6
                """);
    }

    private static void recounting() {
        Script.edge("27: NONE", Script.atFactory(1000, BUYS_AND_SAILS), """
                days(20)
                recount(2, 0, 1) -> -1
                recount(-1, 0, 1) -> -1
                recount(1, 4, 1) -> -1
                recount(1, -1, 1) -> -1
                recount(1, 4, 100) -> -1
                recount(2147483647, 0, 1) -> -1
                recount(1, 0, 1) -> 3
                """);
        Script.edge("27: STATE: it did not come", Script.atFactory(1000, BUYS_AND_SAILS), """
                recount(1, 0, 1) -> -3
                recount(1, 0, 100) -> -3
                # one that did not come from a FACTORY
                recount(0, 0, 1) -> -3
                days(19)
                recount(1, 0, 1) -> -3
                days(1)
                recount(1, 0, 1) -> 3
                recount(0, 0, 1) -> -3
                """);
        Script.edge("27: BAD (0 .. 99)", Script.atFactory(1000, BUYS_AND_SAILS), """
                days(20)
                recount(1, 0, 99) -> 3
                recount(1, 0, 100) -> -2
                recount(1, 0, 0) -> 99
                recount(1, 0, -1) -> -2
                recount(1, 0, 2147483647) -> -2
                recount(1, 0, 3) -> 0
                """);
        Script.edge("27: STOCK stays", Script.atFactory(1000, BUYS_AND_SAILS), """
                days(20)
                stock(0, 0) -> 3
                recount(1, 0, 99) -> 3
                stock(0, 0) -> 3
                voyage(1, 6) -> 3
                voyage(1, 11) -> 3
                recount(1, 0, 3) -> 99
                voyage(1, 11) -> 0
                """);
    }
}
