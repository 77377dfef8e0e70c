/** Promises 19 to 27: ships and voyages. */
public final class ShipsTest {
    public static void main(String[] args) {
        ships();
        takingUp();
        loading();
        loadingMuch();
        loadingWhereBeyond();
        stowing();
        sailing();
        fullOfVoyages();
        winter();
        losing();
        ofShips();
        ofVoyages();
        beyond();
        beyondOfTwenty();
        recounting();
        Check.end();
    }

    private static void ships() {
        TwoSeas sea = new TwoSeas();
        Check.due("19 owner -1", sea.ship(-1, 5), -1);
        Check.due("19 owner 4", sea.ship(4, 0), -1);
        Check.due("19 tons 0", sea.ship(0, 0), -2);
        Check.due("19 tons 61", sea.ship(0, 61), -2);
        for (int i = 0; i < 8; i++) {
            Check.due("19 number", sea.ship(i % 4, i == 0 ? 1 : 60), i);
        }
        Check.due("19 full", sea.ship(0, 1), -4);
        Check.due("19 bad ahead of full", sea.ship(0, 61), -2);
        Check.due("19 at the house", sea.shipOf(7, 0), 0);
        Check.due("19 not taken up", sea.shipOf(7, 3), 0);
        Check.due("19 its tons", sea.shipOf(0, 2), 1);
    }

    private static void takingUp() {
        TwoSeas sea = new TwoSeas();
        int[] owners = {3, 1, 1, 1, 0, 3};
        for (int owner : owners) {
            sea.ship(owner, 5);
        }
        int[] due = {4, 1, 0, 2, 5, 3, -1};
        for (int i = 0; i < due.length; i++) {
            Check.due("20 taken " + i, sea.take(), due[i]);
        }
        Check.due("20 is taken up", sea.shipOf(3, 3), 1);
        sea.factory(1, 0, 20);
        sea.ship(2, 5);
        sea.ship(1, 5);
        Check.due("20 owner 2 had no turn", sea.take(), 6);
        Check.due("20 the last", sea.take(), 7);
        Check.due("20 none", sea.take(), -1);

        TwoSeas away = Check.atFactory(100, "buy 0 1;lade 0 1;sail 1");
        away.ship(1, 5);
        away.ship(0, 5);
        away.days(19);
        Check.due("20 at sea is not at the house", away.take(), 1);
        away.days(1);
        Check.due("20 back again, not taken up any more", away.shipOf(0, 3), 0);
        Check.due("20 of one owner the least ship", away.take(), 0);
        Check.due("20 then the other one", away.take(), 2);
    }

    private static void loading() {
        TwoSeas sea = new TwoSeas();
        sea.factory(2, 0, 20);
        sea.ship(0, 5);
        sea.bullion(0, 100);
        Check.due("21 aboard", sea.load(0, 60), 60);
        Check.due("21 from the place", sea.bullion(0, 0), 40);
        Check.due("21 more than there is", sea.load(0, 41), -2);
        Check.due("21 ashore", sea.load(0, -10), 50);
        Check.due("21 to the place", sea.bullion(0, 0), 50);
        Check.due("21 more ashore than there is", sea.load(0, -51), -2);
        Check.due("21 the least number", sea.load(0, Integer.MIN_VALUE), -2);
        Check.due("21 the greatest number", sea.load(0, Integer.MAX_VALUE), -2);
        Check.due("21 nothing", sea.load(0, 0), 50);
        Check.due("21 ship 1", sea.load(1, 0), -1);
        Check.due("21 ship -1", sea.load(-1, 0), -1);
        sea.take();
        sea.sail(0, 2);
        Check.due("21 at sea", sea.load(0, 1), -3);
        Check.due("21 state ahead of bad", sea.load(0, 1000), -3);
        sea.days(20);
        Check.due("21 came into bullion", sea.bullion(2, 0), 50);
        Check.due("21 none aboard", sea.load(0, 0), 0);
        Check.due("21 from a factory", sea.load(0, 50), 50);
        Check.due("21 the factory has none", sea.bullion(2, 0), 0);
    }

    /** The bound of BULLION is one of a PLACE, not of a SHIP. */
    private static void loadingMuch() {
        TwoSeas rich = new TwoSeas();
        rich.factory(1, 0, 20);
        rich.ship(0, 5);
        rich.ship(0, 5);
        rich.bullion(0, 1000000);
        rich.load(0, 1);
        giveMillions(rich, 0, 99);
        rich.bullion(0, 1);
        Check.due("21 the house is at its bound", rich.bullion(0, 0), 100000000);
        Check.due("21 ashore it would be beyond", rich.load(0, -1), -2);
        Check.due("21 nothing ashore", rich.load(0, 0), 1);
        Check.due("21 aboard up to a place's bound", rich.load(0, 99999999), 100000000);
        Check.due("21 aboard beyond a place's bound", rich.load(0, 1), 100000001);
        Check.due("21 the house has none", rich.bullion(0, 0), 0);
        Check.due("21 more than there is, when much is aboard", rich.load(0, 1), -2);
        Check.due("21 all of it ashore would be beyond", rich.load(0, -100000001), -2);
        Check.due("21 ashore up to the bound", rich.load(0, -100000000), 1);
        Check.due("21 aboard again", rich.load(0, 100000000), 100000001);
        giveMillions(rich, 0, 50);
        Check.due("21 far beyond a place's bound", rich.load(0, 50000000), 150000001);
        Check.due("21 the greatest number, when much is aboard", rich.load(0, Integer.MAX_VALUE), -2);
        Check.due("21 the least number, when much is aboard", rich.load(0, Integer.MIN_VALUE), -2);
        rich.take();
        rich.take();
        rich.sail(0, 1);
        rich.sail(1, 1);
        rich.days(20);
        Check.due("21 all came", rich.shipOf(0, 4), 0);
        Check.due("5 a place that is beyond by what came", rich.bullion(1, -1), -2);
        Check.due("21 nothing, where a place is beyond", rich.load(0, 0), 0);
        Check.due("21 aboard, the place beyond still", rich.load(0, 49999999), 49999999);
        Check.due("21 nothing, where it is beyond still", rich.load(0, 0), 49999999);
        Check.due("21 ashore it would be beyond further", rich.load(0, -1), -2);
        Check.due("21 more than a place that is beyond has", rich.load(1, 100000003), -2);
        Check.due("5 it is beyond by 2", rich.bullion(1, -1), -2);
        Check.due("21 aboard, the place within again", rich.load(0, 2), 50000001);
        Check.due("21 what is ashore", rich.bullion(1, 0), 100000000);
        Check.due("21 ashore at the bound", rich.load(0, -1), -2);
        Check.due("21 the other ship", rich.load(1, 100000000), 100000000);
        Check.due("21 ashore has none", rich.bullion(1, 0), 0);
    }

    /** What a SHIP brings is not told by hand: a PLACE that is beyond gives all that it has. */
    private static void loadingWhereBeyond() {
        TwoSeas sea = new TwoSeas();
        sea.ship(0, 1);
        sea.take();
        sea.bullion(0, 2);
        sea.load(0, 2);
        giveMillions(sea, 1, 100);
        sea.sail(0, 1);
        sea.days(120);
        Check.due("21 more than all", sea.load(0, 100000003), -2);
        Check.due("21 one ashore, none aboard", sea.load(0, -1), -2);
        Check.due("21 one aboard", sea.load(0, 1), 1);
        Check.due("21 one ashore again", sea.load(0, -1), -2);
        Check.due("21 all of it aboard", sea.load(0, 100000001), 100000002);
        Check.due("21 nothing is left", sea.bullion(1, 0), 0);
        Check.due("21 one too many ashore", sea.load(0, -100000001), -2);
        Check.due("21 ashore up to the bound", sea.load(0, -100000000), 2);
    }

    private static void giveMillions(TwoSeas sea, int p, int n) {
        for (int i = 0; i < n; i++) {
            sea.bullion(p, 1000000);
        }
    }

    private static void stowing() {
        TwoSeas sea = new TwoSeas();
        sea.ship(0, 30);
        sea.person(0, 2);
        sea.person(1, 2);
        Check.due("22 person 2", sea.stow(2, 0, 1), -1);
        Check.due("22 person -1", sea.stow(-1, 0, 1), -1);
        Check.due("22 ship 1", sea.stow(0, 1, 1), -1);
        Check.due("22 ship -1", sea.stow(0, -1, 21), -1);
        Check.due("22 -1", sea.stow(0, 0, -1), -2);
        Check.due("22 21", sea.stow(0, 0, 21), -2);
        Check.due("22 bad ahead of state", sea.stow(1, 0, 21), -2);
        Check.due("22 not at its place", sea.stow(1, 0, 1), -3);
        Check.due("22 20", sea.stow(0, 0, 20), 20);
        Check.due("22 0", sea.stow(0, 0, 0), 20);
        Check.due("22 beside what it has", sea.stow(0, 0, 9), 29);
        Check.due("22 full", sea.stow(0, 0, 2), -4);
        Check.due("22 just full", sea.stow(0, 0, 1), 30);
        Check.due("22 none free", sea.shipOf(0, 2), 0);
        sea.take();
        sea.sail(0, 1);
        Check.due("22 at sea", sea.stow(0, 0, 0), -3);
        sea.days(120);
        Check.due("22 landed", sea.shipOf(0, 2), 30);
        Check.due("22 none of before", sea.stow(1, 0, 3), 3);

        TwoSeas laden = Check.atFactory(10000, "buy 0 58;lade 0 58");
        laden.person(1, 9);
        Check.due("22 beside bales full", laden.stow(0, 0, 3), -4);
        Check.due("22 beside bales", laden.stow(0, 0, 2), 2);
    }

    private static void sailing() {
        TwoSeas sea = new TwoSeas();
        sea.factory(3, 0, 33);
        sea.ship(0, 5);
        sea.ship(0, 5);
        sea.take();
        Check.due("23 ship 2", sea.sail(2, 1), -1);
        Check.due("23 ship -1", sea.sail(-1, 1), -1);
        Check.due("23 to the house", sea.sail(0, 0), -1);
        Check.due("23 place 5", sea.sail(0, 5), -1);
        Check.due("23 not taken up", sea.sail(1, 1), -3);
        Check.due("23 leaves", sea.sail(0, 3), 0);
        Check.due("23 at sea", sea.sail(0, 3), -3);
        Check.due("23 comes", sea.shipOf(0, 1), 33);
        sea.days(33);
        Check.due("23 is there", sea.shipOf(0, 0), 3);
        Check.due("23 still taken up", sea.shipOf(0, 3), 1);
        Check.due("23 not from a factory", sea.sail(0, 3), -3);
        sea.take();
        Check.due("23 the next voyage", sea.sail(1, 4), 1);
    }

    /** Eight ships go to and fro until 99 voyages were. */
    private static void fullOfVoyages() {
        TwoSeas sea = new TwoSeas();
        sea.factory(1, 0, 20);
        sea.factory(1, 1, 20);
        sea.bullion(1, 1000000);
        for (int i = 0; i < 8; i++) {
            sea.ship(i % 4, 1);
        }
        Check.write(sea, 1, "buy 0 1;lade 0 1;sail 1");
        sea.copy(0, 0);
        boolean full = false;
        for (int round = 0; round < 14 && !full; round++) {
            for (int i = 0; i < 8; i++) {
                int ship = sea.take();
                int due = sea.count(3) < 99 ? sea.count(3) : -4;
                if (ship >= 0) {
                    Check.due("23 voyage", sea.sail(ship, 1), due);
                    full |= due == -4;
                }
            }
            if (!full) {
                sea.days(60);
            }
        }
        Check.due("23 never more than 99", sea.count(3), 99);
        Check.holds("23 full was met", full);
        Check.due("23 the last one leaves the house", sea.voyage(98, 1), 0);
        Check.due("23 none behind it", sea.voyage(99, 0), -5);
        int there = 0;
        sea.days(100);
        for (int i = 0; i < 8; i++) {
            there += sea.shipOf(i, 0) == 1 ? 1 : 0;
        }
        Check.due("23 none leaves a factory either", sea.count(3), 99);
        Check.due("23 none is at sea", sea.count(7), 0);
        Check.due("23 those that came there wait", there, 3);
        Check.due("23 laden as they are", sea.shipOf(0, 5), 1);
    }

    private static void winter() {
        int[][] due = {{239, 20}, {240, 80}, {359, 80}, {360, 20}, {599, 20}, {600, 80}};
        for (int[] row : due) {
            TwoSeas sea = new TwoSeas();
            sea.factory(1, 0, 20);
            sea.ship(0, 5);
            sea.take();
            pass(sea, row[0]);
            sea.sail(0, 1);
            Check.due("23 leaves on day " + row[0], sea.shipOf(0, 1), row[0] + row[1]);
        }
        TwoSeas back = Check.atFactory(1000, "buy 0 1;lade 0 1;sail 1 if day>239");
        pass(back, 220);
        Check.due("26 left in winter", back.voyage(1, 3), 240);
        Check.due("26 comes later", back.voyage(1, 4), 320);
    }

    private static void pass(TwoSeas sea, int days) {
        for (int left = days; left > 0; left -= 200) {
            sea.days(Math.min(left, 200));
        }
    }

    private static void losing() {
        TwoSeas sea = Check.atFactory(1000, "buy 0 1;lade 0 1;sail 1");
        Check.due("24 voyage 2", sea.lose(2), -1);
        Check.due("24 voyage -1", sea.lose(-1), -1);
        Check.due("24 at its end", sea.lose(0), -3);
        Check.due("24 told", sea.lose(1), 1);
        Check.due("24 told so", sea.lose(1), -3);
        Check.due("24 still on the sea", sea.shipOf(0, 0), -1);
        sea.days(20);
        Check.due("24 gone", sea.shipOf(0, 0), -2);
        Check.due("24 at its end", sea.lose(1), -3);
        Check.due("24 nothing came", sea.stock(0, 0), 0);
        Check.due("24 nothing was read", sea.known(1, 0), -1);
        Check.due("24 nothing is aboard", sea.shipOf(0, 5), 0);
    }

    private static void ofShips() {
        TwoSeas sea = Check.atFactory(1000, "buy 0 1;buy 3 2;lade 0 1;lade 3 2;sail 6 if day=22");
        sea.person(1, 9);
        sea.stow(0, 0, 7);
        sea.load(0, 11);
        sea.letter(1, 2);
        sea.copy(1, 0);
        Check.due("25 place", sea.shipOf(0, 0), 1);
        Check.due("25 not at sea", sea.shipOf(0, 1), -1);
        Check.due("25 free", sea.shipOf(0, 2), 50);
        Check.due("25 taken up", sea.shipOf(0, 3), 1);
        Check.due("25 bullion", sea.shipOf(0, 4), 11);
        Check.due("25 sort 0", sea.shipOf(0, 5), 1);
        Check.due("25 sort 1", sea.shipOf(0, 6), 0);
        Check.due("25 sort 2", sea.shipOf(0, 7), 0);
        Check.due("25 sort 3", sea.shipOf(0, 8), 2);
        Check.due("25 copies", sea.shipOf(0, 9), 1);
        Check.due("25 voyage", sea.shipOf(0, 10), 0);
        Check.due("25 what 11", sea.shipOf(0, 11), -5);
        Check.due("25 what -1", sea.shipOf(0, -1), -5);
        Check.due("25 ship 1", sea.shipOf(1, 0), -5);
        Check.due("25 ship -1", sea.shipOf(-1, 0), -5);
        sea.days(2);
        Check.due("25 at sea", sea.shipOf(0, 0), -1);
        Check.due("25 comes", sea.shipOf(0, 1), 42);
        Check.due("25 the invoice is aboard too", sea.shipOf(0, 9), 2);
        Check.due("25 latest voyage", sea.shipOf(0, 10), 1);
        sea.days(20);
        Check.due("25 came", sea.shipOf(0, 0), 0);
        Check.due("25 stock came", sea.stock(0, 3), 6);
        Check.due("25 bullion came", sea.bullion(0, 0), 11);
        Check.due("25 nothing aboard", sea.shipOf(0, 2), 60);
        Check.due("25 but a copy for elsewhere", sea.shipOf(0, 9), 1);
        Check.due("25 not taken up", sea.shipOf(0, 3), 0);
        sea.ship(1, 4);
        Check.due("25 no voyage", sea.shipOf(1, 10), -1);
    }

    private static void ofVoyages() {
        TwoSeas sea = Check.atFactory(1000, "buy 0 1;buy 3 2;lade 0 1;lade 3 2;sail 6 if day=22");
        int[] out = {0, 0, 1, 0, 20, 0, 0, 0, 0, 0, -1, -1, 0};
        row(sea, 0, out);
        Check.due("26 voyage 1", sea.voyage(1, 0), -5);
        Check.due("26 voyage -1", sea.voyage(-1, 0), -5);
        sea.days(2);
        int[] back = {0, 1, 0, 22, 42, 0, 3, 0, 0, 6, 1, 1, 0};
        row(sea, 1, back);
        sea.lose(1);
        back[5] = 1;
        row(sea, 1, back);
        sea.days(20);
        back[11] = 2;
        row(sea, 1, back);
        Check.due("26 what 13", sea.voyage(0, 13), -5);
        Check.due("26 what -1", sea.voyage(0, -1), -5);
    }

    private static void row(TwoSeas sea, int voyage, int[] due) {
        for (int what = 0; what < due.length; what++) {
            Check.due("26 voyage(" + voyage + ", " + what + ")", sea.voyage(voyage, what), due[what]);
        }
    }

    private static void beyond() {
        beyondOf(9, 4, 0);
        beyondOf(9, 5, 1);
        beyondOf(3, 5, 4);
        beyondOf(0, 0, 0);
        TwoSeas sea = Check.atFactory(1000, "buy 0 1;lade 0 1;sail 1 if day=21");
        sea.person(1, 8);
        sea.person(1, 3);
        sea.person(2, 9);
        sea.stow(0, 0, 12);
        sea.goes(0, 0);
        sea.goes(2, 1);
        sea.days(1);
        Check.due("26 by those who are there then", sea.voyage(1, 12), 12 - 1 - 4);
        sea.goes(2, 0);
        Check.due("26 stays", sea.voyage(1, 12), 7);
    }

    private static void beyondOfTwenty() {
        TwoSeas sea = Check.atFactory(1000, "buy 0 1;lade 0 1;sail 1 if day=21");
        for (int i = 0; i < 20; i++) {
            sea.person(1, i < 19 ? 0 : 9);
        }
        sea.stow(19, 0, 7);
        sea.days(1);
        Check.due("26 the twentieth has rights too", sea.voyage(1, 12), 3);
    }

    private static void beyondOf(int rank, int tons, int due) {
        TwoSeas sea = Check.atFactory(1000, "buy 0 1;lade 0 1;sail 1 if day=21");
        sea.person(1, rank);
        sea.stow(0, 0, tons);
        sea.days(1);
        Check.due("26 rank " + rank + ", tons " + tons, sea.voyage(1, 12), due);
    }

    private static void recounting() {
        TwoSeas sea = Check.atFactory(1000, "buy 2 5;lade 2 5;sail 1");
        Check.due("27 voyage 2", sea.recount(2, 0, 1), -1);
        Check.due("27 voyage -1", sea.recount(-1, 0, 1), -1);
        Check.due("27 sort 4", sea.recount(1, 4, 1), -1);
        Check.due("27 sort -1", sea.recount(1, -1, 1), -1);
        Check.due("27 on the sea", sea.recount(1, 2, 100), -3);
        sea.days(20);
        Check.due("27 from the house", sea.recount(0, 2, 1), -3);
        Check.due("27 100", sea.recount(1, 2, 100), -2);
        Check.due("27 -1", sea.recount(1, 2, -1), -2);
        Check.due("27 joined", sea.voyage(1, 11), 0);
        Check.due("27 was", sea.recount(1, 2, 4), 5);
        Check.due("27 not joined", sea.voyage(1, 11), 3);
        Check.due("27 as it left stays", sea.voyage(1, 8), 5);
        Check.due("27 stock stays", sea.stock(0, 2), 5);
        Check.due("27 back", sea.recount(1, 2, 5), 4);
        Check.due("27 joined again", sea.voyage(1, 11), 0);
        Check.due("27 another sort", sea.recount(1, 3, 99), 0);
        Check.due("27 each sort counts", sea.voyage(1, 11), 3);
        Check.due("27 down to 0", sea.recount(1, 3, 0), 99);
        Check.due("27 joined", sea.voyage(1, 11), 0);
        Check.due("27 sort 0", sea.recount(1, 0, 1), 0);
        Check.due("27 counts as the others do", sea.voyage(1, 11), 3);
        TwoSeas lost = Check.atFactory(1000, "buy 2 5;lade 2 5;sail 1");
        lost.lose(1);
        lost.days(20);
        Check.due("27 gone", lost.recount(1, 2, 1), -3);
    }
}
