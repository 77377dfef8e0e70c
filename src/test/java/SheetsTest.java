/** Promises 45 to 51: acts, kinds, counts, sheets. */
public final class SheetsTest {
    public static void main(String[] args) {
        acts();
        wrongActs();
        kinds();
        counts();
        sheets();
        cells();
        carrying();
        Check.end();
    }

    /** Papers 0 ORDER, 1 BILL, 2 INVOICE, 3 LETTER, 4 CONSULT, 5 DISSENT; all but the first of day 20. */
    private static TwoSeas withPapers() {
        TwoSeas sea = Check.atFactory(20, "draw 77;buy 0 1;lade 0 1;sail 1");
        sea.letter(1, 0);
        sea.person(1, 3);
        sea.person(1, 2);
        sea.council(1, 0, 1, 1, 2);
        return sea;
    }

    private static void acts() {
        TwoSeas sea = withPapers();
        int x = 1000;
        // binds
        run(sea, 0, 0, x, (x + 0) * 3, 30, 10);
        run(sea, 1, 0, x, x + 1, 10);
        run(sea, 2, 0, x, x + 2, 10);
        run(sea, 3, 0, x, x + 3, 10);
        run(sea, 4, 0, x, x + 4, 10);
        run(sea, 5, 0, x, x + 5 - 20, 70, 10);
        // travels
        run(sea, 0, 1, x, x * 3 * 2 - 0, 20, 11, 30, 10);
        run(sea, 1, 1, x, (x + 1) * 2 - 1 ^ 9, 60, 20, 11, 10);
        run(sea, 2, 1, x, (x + 2) * 2 - 2, 20, 11, 10);
        run(sea, 3, 1, x, (x + 3) * 2 - 3, 20, 11, 10);
        run(sea, 4, 1, x, (x + 4) * 2 - 4, 20, 11, 10);
        run(sea, 5, 1, x, (x - 15) * 2 - 5, 20, 11, 70, 10);
        // owes
        run(sea, 0, 2, x, x * 3 * 2 ^ x * 3, 12, 20, 11, 30, 10, 30, 10);
        run(sea, 1, 2, x, (((x + 1) * 2 - 1 ^ 9 ^ x + 20 + 1) + 1) * 2, 61, 50, 12, 60, 20, 11, 10, 10);
        run(sea, 2, 2, x, ((x + 2) * 2 - 2 ^ x + 20 + 2) + 2, 50, 12, 20, 11, 10, 10);
        run(sea, 3, 2, x, (x + 3) * 2 - 3 ^ x + 20 + 3, 12, 20, 11, 10, 10);
        run(sea, 4, 2, x, (x - 1 + 4) * 2 - 4 ^ x - 1 + 20 + 4, 40, 12, 20, 11, 10, 10);
        run(sea, 5, 2, x, (x - 1 - 15) * 2 - 5 ^ x - 1 + 20 - 15, 40, 12, 20, 11, 70, 10, 70, 10);
        // wrapping
        run(sea, 0, 0, Integer.MAX_VALUE, Integer.MAX_VALUE * 3, 30, 10);
        run(sea, 4, 2, Integer.MIN_VALUE, (Integer.MAX_VALUE + 4) * 2 - 4 ^ Integer.MAX_VALUE + 24, 40, 12, 20, 11, 10, 10);
    }

    private static void run(TwoSeas sea, int paper, int act, int x, int due, int... bodies) {
        String call = "act(" + paper + ", " + act + ", " + x + ")";
        Check.due("45 " + call, sea.act(paper, act, x), due);
        for (int i = 0; i < bodies.length; i++) {
            Check.due("46 trace(" + i + ") of " + call, sea.trace(i), bodies[i]);
        }
        Check.due("46 behind the last of " + call, sea.trace(bodies.length), -1);
        Check.due("46 -1", sea.trace(-1), -1);
        Check.due("48 bodies of " + call, sea.count(10), bodies.length);
    }

    private static void wrongActs() {
        int[][] wrong = {{6, 0}, {-1, 0}, {0, 3}, {0, -1}};
        for (int[] row : wrong) {
            TwoSeas sea = withPapers();
            sea.act(5, 2, 1);
            Check.due("45 none such", sea.act(row[0], row[1], 7), 0);
            Check.due("46 no trace", sea.trace(0), -1);
            Check.due("48 no bodies", sea.count(10), 0);
        }
    }

    private static void kinds() {
        TwoSeas sea = withPapers();
        int[] kinds = {2, 5, 4, 1, 3, 6};
        String[] above = {"0", "01", "012", "013", "014", "0145", "0136"};
        for (int paper = 0; paper < kinds.length; paper++) {
            for (int k = 0; k <= 6; k++) {
                boolean under = above[kinds[paper]].indexOf('0' + k) >= 0;
                Check.due("47 taken(" + paper + ", " + k + ")", sea.taken(paper, k), under ? kinds[paper] : -13);
            }
        }
        Check.due("47 kind 7", sea.taken(0, 7), -2);
        Check.due("47 kind -1", sea.taken(9, -1), -2);
        Check.due("47 paper 6", sea.taken(6, 0), -11);
        Check.due("47 paper -1", sea.taken(-1, 6), -11);
    }

    private static void counts() {
        TwoSeas sea = withPapers();
        sea.ship(0, 9);
        Check.type(sea, "four");
        sea.act(3, 0, 0);
        int[] due = {2, 6, 2, 2, 20, 5, 4, 1, 0, 0, 1};
        for (int what = 0; what < due.length; what++) {
            Check.due("48 count(" + what + ")", sea.count(what), due[what]);
        }
        Check.due("48 11", sea.count(11), -2);
        Check.due("48 -1", sea.count(-1), -2);
    }

    private static void sheets() {
        TwoSeas sea = new TwoSeas();
        Check.due("49 sheet 3", sea.sheet(3, 0, 1), -2);
        Check.due("49 sheet -1", sea.sheet(-1, 0, -1), -2);
        Check.due("49 sort 3", sea.sheet(0, 3, -1), -2);
        Check.due("49 sort -2", sea.sheet(0, -2, 1), -2);
        Check.due("49 65", sea.sheet(0, 0, 65), -2);
        Check.due("49 -1", sea.sheet(0, 0, -1), -14);
        Check.due("49 still missing", sea.cell(0, 0, 1), -11);
        Check.due("49 64", sea.sheet(0, 0, 64), 1);
        Check.due("49 item 63", sea.cell(0, 63, '5'), 1);
        Check.due("49 item 64", sea.cell(0, 64, 1), -12);
        Check.due("49 again", sea.sheet(0, 2, 64), 1);
        Check.type(sea, "keep ");
        sea.mail(0, 2, 63, 1);
        Check.due("49 all 0 again", sea.order(1), -15);
        Check.due("49 of 0 items", sea.sheet(0, 1, 0), 1);
        Check.due("49 has none", sea.cell(0, 0, 1), -12);
        Check.due("49 missing, n does not matter", sea.sheet(0, -1, 65), 1);
        Check.due("49 is missing", sea.cell(0, 0, 1), -11);
        Check.due("49 missing, n below 0", sea.sheet(1, -1, -1), 1);
    }

    private static void cells() {
        TwoSeas sea = new TwoSeas();
        Check.due("50 sheet 3", sea.cell(3, 0, 1), -2);
        Check.due("50 sheet -1", sea.cell(-1, 0, 1), -2);
        Check.due("50 missing", sea.cell(2, -1, 1), -11);
        sea.sheet(2, 1, 3);
        Check.due("50 item 3", sea.cell(2, 3, 1), -12);
        Check.due("50 item -1", sea.cell(2, -1, 1), -12);
        Check.due("50 item 2", sea.cell(2, 2, 0x12340039), 1);
        Check.type(sea, "keep ");
        sea.mail(2, 1, 2, 1);
        Check.due("50 its lowest bits are 9", sea.order(1), 0);
    }

    private static void carrying() {
        TwoSeas sea = new TwoSeas();
        Check.due("51 sheet 3", sea.carry(3, 0, 0, 0, 0), -2);
        Check.due("51 to sheet 3", sea.carry(0, 0, 3, 0, 0), -2);
        Check.due("51 sheet -1", sea.carry(-1, 0, 0, 0, 0), -2);
        Check.due("51 both missing", sea.carry(0, 0, 1, 0, 0), -11);
        sea.sheet(0, 0, 9);
        Check.due("51 the other missing", sea.carry(0, 0, 1, 0, -1), -11);
        Check.due("51 the one missing", sea.carry(1, 0, 0, 0, -1), -11);
        sea.sheet(1, 1, 9);
        Check.due("51 of two sorts", sea.carry(0, 0, 1, 0, -1), -13);
        sea.sheet(1, 0, 4);
        int[][] beyond = {
            {0, 0, -1}, {-1, 0, 1}, {0, -1, 1}, {9, 0, 1}, {0, 4, 1}, {0, 0, 5}, {6, 0, 4}, {0, 1, 4},
            {Integer.MAX_VALUE, 0, 2}, {0, Integer.MAX_VALUE, 2}, {0, 0, Integer.MAX_VALUE}, {10, 0, 0}, {0, 5, 0},
            {1, 1, Integer.MAX_VALUE}, {0, 0, Integer.MIN_VALUE},
        };
        for (int[] row : beyond) {
            Check.due("51 beyond", sea.carry(0, row[0], 1, row[1], row[2]), -12);
        }
        Check.due("51 none at the ends", sea.carry(0, 9, 1, 4, 0), 0);
        String text = "draw 1234";
        for (int i = 0; i < 9; i++) {
            sea.cell(0, i, text.charAt(i));
        }
        Check.due("51 to another", sea.carry(0, 5, 1, 0, 4), 4);
        drawn(sea, 1, 1234);
        Check.due("51 up within one", sea.carry(1, 0, 1, 1, 3), 3);
        drawn(sea, 2, 1123);
        Check.due("51 down within one", sea.carry(1, 1, 1, 0, 3), 3);
        drawn(sea, 3, 1233);
        Check.due("51 what was carried stays there too", sea.carry(0, 5, 1, 2, 2), 2);
        drawn(sea, 4, 1212);
    }

    /** Sheet 1 has just these digits: a factory that gets them as an order draws so much. */
    private static void drawn(TwoSeas sea, int factory, int due) {
        Check.type(sea, "draw ");
        sea.mail(1, 0, 0, 4);
        int order = sea.order(factory);
        int ship = sea.ship(0, 1);
        sea.factory(factory, 0, 20);
        sea.take();
        sea.copy(order, ship);
        sea.sail(ship, factory);
        sea.days(20);
        Check.due("51 drawn at " + factory, sea.bullion(factory, 0), due);
    }
}
