/** Promises 31 to 34: bills and councils. */
public final class BillsTest {
    private static final String DRAW = "draw 600;buy 0 1 if day=21;lade 0 1;sail 1 if day=21";

    public static void main(String[] args) {
        accepting();
        paying();
        interest();
        refusedWhenDue();
        refusing();
        drawnAgain();
        councils();
        votes();
        councilOfTwenty();
        councilPapers();
        Check.end();
    }

    /** Paper 1 is a bill of 600 drawn on day 20 that the house knows from day 41 on. */
    private static TwoSeas withBill(int house) {
        TwoSeas sea = Check.atFactory(0, DRAW);
        sea.bullion(0, house);
        sea.copy(1, 0);
        sea.days(21);
        return sea;
    }

    private static void accepting() {
        TwoSeas sea = Check.atFactory(0, DRAW);
        sea.copy(1, 0);
        Check.due("31 an order", sea.accept(0), -1);
        Check.due("31 paper 2", sea.accept(2), -1);
        Check.due("31 paper -1", sea.accept(-1), -1);
        Check.due("31 not known", sea.accept(1), -3);
        sea.days(20);
        Check.due("31 not known yet", sea.accept(1), -3);
        Check.due("31 an invoice", sea.accept(2), -1);
        sea.days(1);
        Check.due("31 due", sea.accept(1), 101);
        Check.due("31 once", sea.accept(1), -3);
        Check.due("32 accepted", sea.bill(1, 0), 1);
        Check.due("32 due", sea.bill(1, 1), 101);
        Check.due("32 nothing yet", sea.bill(1, 2), 0);
        TwoSeas refused = withBill(0);
        refused.refuse(1);
        Check.due("31 refused", refused.accept(1), -3);
    }

    private static void paying() {
        TwoSeas sea = withBill(612);
        sea.accept(1);
        sea.days(59);
        Check.due("32 not due yet", sea.bill(1, 0), 1);
        sea.days(1);
        Check.due("32 paid", sea.bill(1, 0), 2);
        Check.due("32 81 days are 2 months", sea.bill(1, 2), 612);
        Check.due("32 the house paid", sea.bullion(0, 0), 0);
        Check.due("32 was due", sea.bill(1, 1), 101);
        Check.due("31 paid", sea.accept(1), -3);
        Check.due("33 paid", sea.refuse(1), -3);
        Check.due("32 what 3", sea.bill(1, 3), -5);
        Check.due("32 what -1", sea.bill(1, -1), -5);
        Check.due("32 an order", sea.bill(0, 0), -5);
        Check.due("32 an invoice", sea.bill(2, 0), -5);
        Check.due("32 paper -1", sea.bill(-1, 0), -5);
    }

    private static void interest() {
        TwoSeas sea = withBill(1000);
        sea.days(9);
        Check.due("32 drawn", sea.bill(1, 0), 0);
        Check.due("32 not due", sea.bill(1, 1), -1);
        sea.accept(1);
        sea.days(60);
        Check.due("32 90 days are 3 months", sea.bill(1, 2), 618);
        int[][] due = {{28, 600}, {29, 606}, {58, 606}, {59, 612}};
        for (int[] row : due) {
            TwoSeas asked = withBill(0);
            asked.days(row[0] - 20);
            Check.due("33 after days: " + (row[0] + 1), asked.refuse(1), row[1]);
        }
        TwoSeas odd = Check.atFactory(0, "draw 99;buy 0 1 if day=21;lade 0 1;sail 1 if day=21");
        odd.copy(1, 0);
        odd.days(60);
        Check.due("33 2 months of 99, cut", odd.refuse(1), 100);
    }

    private static void refusedWhenDue() {
        TwoSeas sea = withBill(611);
        sea.accept(1);
        sea.days(60);
        Check.due("32 refused", sea.bill(1, 0), 3);
        Check.due("32 owed", sea.bill(1, 2), 612);
        Check.due("32 the house paid nothing", sea.bullion(0, 0), 611);
        sea.days(100);
        Check.due("32 till then", sea.bill(1, 2), 612);
        Check.due("33 refused already", sea.refuse(1), -3);
    }

    private static void refusing() {
        TwoSeas sea = withBill(9999);
        Check.due("33 an order", sea.refuse(0), -1);
        Check.due("33 paper 3", sea.refuse(3), -1);
        Check.due("33 paper -1", sea.refuse(-1), -1);
        sea.days(9);
        Check.due("33 owes", sea.refuse(1), 606);
        Check.due("33 once", sea.refuse(1), -3);
        Check.due("32 refused", sea.bill(1, 0), 3);
        Check.due("32 owed", sea.bill(1, 2), 606);
        Check.due("32 not due", sea.bill(1, 1), -1);
        TwoSeas accepted = withBill(9999);
        accepted.accept(1);
        Check.due("33 an accepted one", accepted.refuse(1), 600);
        accepted.days(60);
        Check.due("33 is not paid", accepted.bullion(0, 0), 9999);
        TwoSeas unknown = Check.atFactory(0, DRAW);
        Check.due("33 not known", unknown.refuse(1), -3);
    }

    private static void drawnAgain() {
        TwoSeas sea = Check.atFactory(0, DRAW);
        sea.copy(1, 0);
        sea.bullion(1, -100);
        sea.days(21);
        sea.days(9);
        Check.due("28 no other while one is open", sea.count(1), 3);
        sea.refuse(1);
        sea.days(1);
        Check.due("28 drawn again", sea.count(1), 4);
        Check.due("28 a bill", sea.bill(3, 0), 0);
        Check.due("28 on that day", sea.paper(3, 2), 51);
    }

    private static TwoSeas withCouncil(int coins, int... ranks) {
        TwoSeas sea = new TwoSeas();
        sea.bullion(2, coins);
        for (int rank : ranks) {
            sea.person(2, rank);
        }
        sea.person(0, 9);
        return sea;
    }

    private static void councils() {
        TwoSeas sea = withCouncil(1000, 4, 4);
        Check.due("34 the house", sea.council(0, 0, 1, 0, 0), -1);
        Check.due("34 place 5", sea.council(5, 0, 1, 0, 0), -1);
        Check.due("34 sort 4", sea.council(2, 4, 1, 1, 0), -1);
        Check.due("34 sort -1", sea.council(2, -1, 0, 1, 0), -1);
        Check.due("34 n 0", sea.council(2, 0, 0, 1, 0), -2);
        Check.due("34 n 100", sea.council(2, 0, 100, 1, 0), -2);
        Check.due("34 bad ahead of state", sea.council(2, 0, 0, 0, 0), -2);
        Check.due("34 one of the house says yes", sea.council(2, 0, 1, 7, 0), -2);
        Check.due("34 one of the house says no", sea.council(2, 0, 1, 3, 4), -2);
        Check.due("34 nobody such", sea.council(2, 0, 1, 3, 1 << 20), -2);
        Check.due("34 below 0", sea.council(2, 0, 1, Integer.MIN_VALUE, 0), -2);
        Check.due("34 all", sea.council(2, 0, 1, -1, 0), -2);
        Check.due("34 nothing was done", sea.count(1) + sea.count(5), 0);
        Check.due("34 buys", sea.council(2, 3, 7, 3, 0), 5 * 20 + 2 * 21);
        Check.due("34 stock", sea.stock(2, 3), 7);
        Check.due("34 bullion", sea.bullion(2, 0), 1000 - 142);
        Check.due("34 heat", sea.price(2, 3), 21);
        int[] entry = {0, 2, 5, 3, 7, 142, 0, -1};
        for (int what = 0; what < entry.length; what++) {
            Check.due("29 entry(0, " + what + ")", sea.entry(0, what), entry[what]);
        }
        Check.due("34 keeps nothing", withCouncil(20, 4).council(2, 0, 9, 1, 0), 20);
        TwoSeas poor = withCouncil(45, 4);
        Check.due("34 as long as coins last", poor.council(2, 0, 9, 1, 0), 40);
        Check.due("34 with none it buys none", poor.council(2, 0, 9, 1, 0), 0);
        Check.due("29 which is no entry", poor.count(5), 1);
        Check.due("34 but a consult", poor.count(1), 2);
    }

    private static void votes() {
        votes("nobody is there", -3, 0, 0);
        votes("nobody votes", -3, 0, 0, 4);
        votes("half of two", 0, 1, 0, 4, 4);
        votes("one of three is less than half", -3, 1, 0, 9, 0, 0);
        votes("two of three", 0, 1, 2, 9, 0, 0);
        votes("less", -3, 1, 2, 3, 4);
        votes("rank 0 counts 1", 0, 1, 0, 0);
        votes("each and 1: 2 ranks of 1 make 4, one of 3 makes 4", -3, 3, 4, 1, 1, 3);
        votes("as much, and the greatest says yes", 0, 4, 3, 1, 1, 3);
        votes("as much, and of the greatest one says yes", 0, 1, 2, 5, 5);
        votes("as much, a greater one does not vote", 0, 1, 2, 5, 5, 9);
        votes("both ways", -3, 3, 2, 9, 0);
        votes("more, though the greatest says no", 0, 3, 4, 4, 5, 9);
    }

    private static void votes(String what, int due, int yes, int no, int... ranks) {
        TwoSeas sea = withCouncil(0, ranks);
        Check.due("34 " + what, sea.council(2, 0, 1, yes, no), due);
        Check.due("34 papers: " + what, sea.count(1), due == 0 ? 1 + Integer.bitCount(no) : 0);
    }

    private static void councilOfTwenty() {
        TwoSeas sea = new TwoSeas();
        for (int i = 0; i < 20; i++) {
            sea.person(4, 0);
        }
        sea.bullion(4, 100);
        Check.due("34 ten of twenty are half", sea.council(4, 0, 1, 0xffc00, 0), 20);
        Check.due("34 nine are less", sea.council(4, 0, 1, 0xff800, 0), -3);
        Check.due("34 the twentieth counts", sea.council(4, 0, 1, 0x803ff, 0x07c00), 20);
        Check.due("48 with a dissent for each no", sea.count(1), 1 + 1 + 5);
    }

    private static void councilPapers() {
        TwoSeas sea = withCouncil(1000, 9, 9, 1, 1);
        for (int i = 0; i < 148; i++) {
            sea.letter(0, 1);
        }
        Check.due("34 no room for a consult and two dissents", sea.council(2, 0, 1, 3, 12), -4);
        Check.due("34 nothing was done", sea.stock(2, 0), 0);
        Check.due("34 state ahead of full", sea.council(2, 0, 1, 12, 3), -3);
        Check.due("34 room for one dissent", sea.council(2, 0, 1, 3, 8), 20);
        Check.due("34 the consult", sea.paper(148, 0), 3);
        Check.due("34 the dissent", sea.paper(149, 0), 6);
        Check.due("34 written there", sea.paper(149, 1), 2);
        Check.due("34 for the house", sea.paper(149, 3), 0);
        Check.due("34 known there", sea.known(148, 2), 0);
        Check.due("34 full", sea.council(2, 0, 1, 3, 0), -4);
    }
}
