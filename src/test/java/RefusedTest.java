import java.util.ArrayList;
import java.util.List;

/**
 * "What is answered so changes nothing": every call that can be refused, by its refusals, on an object that has
 * something of all that there is, so that whatever a refused call would change shows. (The 99th VOYAGE, DAY 2999 and
 * BULLION of 100000000 need long runs of their own: EdgesOfShipsTest, EdgesOfDaysTest and EdgesOfPlacesTest have them.)
 */
public final class RefusedTest {
    public static void main(String[] args) {
        String busy = busy();
        for (String row : REFUSED.split("\n")) {
            Script.edge("refused, much being there: " + row, busy, row);
        }
        String full = busy + FILLED;
        for (String row : REFUSED_WHEN_FULL.split("\n")) {
            Script.edge("refused, all being full: " + row, full, row);
        }
        everyCallIsRefused();
        Check.end();
    }

    /**
     * On day 62: ship 0 (owner 0) is at factory 1, laden; 1 (owner 1) and 2 (owner 0) at the HOUSE, not taken up, of owners
     * of as many turns; 3 at sea; 4 taken up at the HOUSE; 5 gone. Papers 0, 1 ORDERS, 2 a BILL of factory 1 that the
     * HOUSE does not know, 3 one of factory 2 that it accepted, 4 a REPORT, 5, 6 INVOICES, 7, 8 CONSULTS, 9 a DISSENT.
     */
    private static String busy() {
        return BEGIN + Script.ordered("draw 600;buy 1 4 if day<22 or day=62;advance 2 11;lade 1 3;sail 2 if day=21", 1, 0)
                + Script.ordered("draw 90;buy 0 1;lade 0 1;sail 1 if day=41", 2, 1) + SENT + TOLD + Script.typed("keep 12");
    }

    private static final String BEGIN = """
            factory(1, 0, 20)
            factory(1, 1, 20)
            factory(2, 0, 20)
            factory(2, 1, 20)
            factory(3, 0, 20)
            factory(1, 2, 7)
            base(1, 3, 33)
            bullion(0, 5000)
            bullion(2, 50)
            person(1, 4) -> 0
            person(1, 5) -> 1
            person(0, 3) -> 2
            person(2, 8) -> 3
            ship(0, 30) -> 0
            ship(1, 9) -> 1
            ship(0, 5) -> 2
            ship(1, 5) -> 3
            ship(2, 6) -> 4
            ship(3, 2) -> 5
            """;

    private static final String SENT = """
            take() -> 0
            take() -> 1
            take() -> 4
            take() -> 5
            copy(0, 0)
            copy(1, 1)
            load(0, 400) -> 400
            load(4, 11) -> 11
            stow(2, 4, 2) -> 2
            sail(0, 1) -> 0
            sail(1, 2) -> 1
            sail(5, 3) -> 2
            lose(2) -> 1
            days(20) -> 20
            shipOf(5, 0) -> -2
            bill(2, 0) -> 0
            bill(3, 0) -> 0
            letter(1, 0) -> 4
            copy(4, 0)
            days(1) -> 21
            voyage(3, 0) -> 0
            days(19) -> 40
            copy(3, 1) -> 1
            days(1) -> 41
            stock(0, 1) -> 6
            take() -> 0
            take() -> 3
            sail(0, 1) -> 5
            days(20) -> 61
            accept(3) -> 121
            sail(3, 2) -> 6
            stow(0, 0, 3) -> 3
            load(0, 50) -> 50
            copy(0, 0) -> 2
            days(1) -> 62
            """;

    private static final String TOLD = """
            council(1, 0, 3, 3, 0) -> 60
            council(1, 0, 2, 2, 1) -> 40
            count(1) -> 10
            open(1, 2) -> 3
            shares(1, 2, 30) -> 130
            wants(0, 1, 4, 900)
            wants(1, 1, 2, 999)
            wants(2, 1, 5, 899)
            wants(3, 0, 5, 9)
            sale(1, 1) -> 900
            gain() -> 402
            divide(16) -> 15
            recount(3, 1, 5) -> 6
            year(0, 0, 30)
            year(1, 0, 31)
            year(2, 0, 32)
            year(3, 0, 33)
            sheet(0, 0, 6) -> 1
            cell(0, 0, 107)
            cell(0, 1, 101)
            cell(0, 2, 101)
            cell(0, 3, 112)
            cell(0, 4, 32)
            cell(0, 5, 57)
            sheet(1, 1, 3) -> 1
            cell(1, 1, 313)
            act(2, 2, 77)
            """;

    /** What fills PERSONS, SHIPS, PAPERS and THE TAPE; the last paper has three copies. */
    private static final String FILLED = """
            15 times person(4, 1) -> 18
            person(0, 3) -> 19
            2 times ship(0, 8) -> 7
            128 times letter(3, 4) -> 137
            12 times letter(0, 4) -> 149
            3 times copy(149, 2) -> 3
            28 times feed(0, 4)
            feed(0, 1) -> 120
            """;

    private static final String REFUSED = """
            factory(0, 0, 30) -> -1
            factory(5, 1, 30) -> -1
            factory(1, 3, 30) -> -1
            factory(1, 0, 19) -> -2
            factory(1, 1, 241) -> -2
            factory(1, 2, 51) -> -2
            factory(1, 2, -1) -> -2
            base(0, 3, 5) -> -1
            base(1, 4, 5) -> -1
            base(1, 3, 0) -> -2
            base(1, 3, 1000) -> -2
            price(0, 0) -> -1
            price(1, 4) -> -1
            bullion(5, 1) -> -1
            bullion(0, 1000001) -> -2
            bullion(0, -1000001) -> -2
            bullion(1, -999999) -> -2
            stock(5, 0) -> -1
            stock(0, 4) -> -1
            person(5, 1) -> -1
            person(1, 10) -> -2
            goes(4, 0) -> -1
            goes(0, 5) -> -1
            feed(1801807216, 5) -> -2
            feed(1801807216, -1) -> -2
            mail(3, 0, 0, 1) -> -1
            mail(0, 3, 0, 1) -> -1
            mail(0, 0, 0, -1) -> -2
            mail(0, 1, 0, 1) -> -13
            mail(2, 1, 0, 1) -> -11
            mail(0, 0, 5, 2) -> -12
            mail(0, 0, -1, 1) -> -12
            order(0) -> -1
            order(5) -> -1
            letter(5, 0) -> -1
            letter(0, 5) -> -1
            letter(1, 1) -> -2
            copy(99, 2) -> -1
            copy(0, 6) -> -1
            copy(0, 3) -> -3
            copy(0, 5) -> -3
            copy(2, 2) -> -3
            known(99, 0) -> -5
            known(0, 5) -> -5
            paper(99, 0) -> -5
            paper(0, 6) -> -5
            force(0) -> -1
            forced(1, 9) -> -1
            holds(1, 9) -> -1
            ship(4, 5) -> -1
            ship(0, 61) -> -2
            load(6, 1) -> -1
            load(3, 1) -> -3
            load(5, 1) -> -3
            load(4, 9999999) -> -2
            load(4, -12) -> -2
            stow(4, 4, 1) -> -1
            stow(0, 6, 1) -> -1
            stow(2, 4, 21) -> -2
            stow(0, 4, 1) -> -3
            stow(2, 3, 1) -> -3
            stow(2, 4, 5) -> -4
            sail(6, 1) -> -1
            sail(4, 0) -> -1
            sail(0, 1) -> -3
            sail(2, 1) -> -3
            sail(3, 1) -> -3
            sail(5, 1) -> -3
            lose(7) -> -1
            lose(0) -> -3
            lose(2) -> -3
            shipOf(6, 0) -> -5
            shipOf(0, 11) -> -5
            voyage(7, 0) -> -5
            voyage(0, 13) -> -5
            recount(7, 1, 4) -> -1
            recount(6, 1, 4) -> -3
            recount(3, 4, 4) -> -1
            recount(0, 1, 4) -> -3
            recount(2, 1, 4) -> -3
            recount(3, 1, 100) -> -2
            days(0) -> -2
            days(201) -> -2
            entry(500, 0) -> -5
            entry(0, 8) -> -5
            open(0, 2) -> -1
            open(1, 4) -> -1
            accept(0) -> -1
            accept(99) -> -1
            accept(2) -> -3
            accept(3) -> -3
            bill(0, 0) -> -5
            bill(2, 3) -> -5
            refuse(0) -> -1
            refuse(99) -> -1
            refuse(2) -> -3
            council(0, 0, 1, 3, 0) -> -1
            council(1, 4, 1, 3, 0) -> -1
            council(1, 0, 100, 3, 0) -> -2
            council(1, 0, 0, 3, 0) -> -2
            council(1, 0, 1, 7, 0) -> -2
            council(1, 0, 1, 3, 8) -> -2
            council(1, 0, 1, 1, 2) -> -3
            council(1, 0, 1, 3, 1) -> -3
            council(1, 0, 1, 0, 0) -> -3
            wants(6, 1, 1, 1) -> -1
            wants(0, 4, 1, 1) -> -1
            wants(0, 1, 100, 1) -> -2
            wants(0, 1, 1, 1000) -> -2
            sale(4, 1) -> -1
            sale(1, 0) -> -2
            sale(1, 100) -> -2
            sale(1, 6) -> -3
            bought(6, 0) -> -1
            bought(0, 2) -> -1
            shares(8, 1, 1) -> -1
            shares(1, 8, 1) -> -1
            shares(1, 2, 71) -> -2
            shares(1, 2, 0) -> -2
            shares(1, 1, 1) -> -2
            divide(-1) -> -2
            divide(9999999) -> -2
            holder(8, 0) -> -1
            holder(0, 2) -> -1
            heard(3, 0, 5) -> -1
            heard(0, 0, 5) -> -5
            heard(1, 4, 5) -> -5
            heard(1, 0, -1) -> -5
            year(4, 0, 1) -> -1
            year(0, 4, 1) -> -1
            year(0, 0, 1000) -> -2
            plan(0, 1, 1, 0) -> -1000000000
            plan(1, 201, 1, 0) -> -1000000000
            trace(20) -> -1
            trace(-1) -> -1
            taken(0, 7) -> -2
            taken(99, 0) -> -11
            taken(0, 3) -> -13
            count(11) -> -2
            sheet(3, 0, 4) -> -2
            sheet(0, 3, 4) -> -2
            sheet(0, 1, 65) -> -2
            sheet(0, 1, -1) -> -14
            cell(3, 0, 1) -> -2
            cell(2, 0, 1) -> -11
            cell(0, 6, 1) -> -12
            cell(0, -1, 1) -> -12
            carry(3, 0, 0, 0, 1) -> -2
            carry(0, 0, 3, 0, 1) -> -2
            carry(0, 0, 2, 0, 1) -> -11
            carry(2, 0, 0, 0, 1) -> -11
            carry(0, 0, 1, 0, 1) -> -13
            carry(0, 0, 0, 4, 3) -> -12
            carry(0, 4, 0, 0, 3) -> -12
            carry(0, 0, 0, 1, -1) -> -12""";

    private static final String REFUSED_WHEN_FULL = """
            person(1, 3) -> -4
            ship(1, 3) -> -4
            letter(0, 1) -> -4
            order(1) -> -4
            copy(149, 2) -> -4
            copy(149, 4) -> -4
            feed(0, 1) -> -4
            feed(0, 4) -> -4
            mail(0, 0, 0, 1) -> -4
            mail(0, 0, 0, 6) -> -4
            council(1, 0, 1, 3, 0) -> -4
            council(1, 0, 1, 2, 1) -> -4""";

    /** The table names each call that can be refused at all. */
    private static void everyCallIsRefused() {
        List<String> missing = new ArrayList<>();
        for (String name : Script.names()) {
            boolean never = name.equals("take") || name.equals("gain") || name.equals("act");
            if (!never && !REFUSED.contains(name + "(")) {
                missing.add(name);
            }
        }
        Check.holds("each call has its refusals here, but " + missing, missing.isEmpty());
    }
}
