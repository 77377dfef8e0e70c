/** Promises 28 to 30: days, what orders do on them, THE LOG, advances. */
public final class DaysTest {
    public static void main(String[] args) {
        days();
        buying();
        keeping();
        heat();
        advances();
        smallAdvances();
        lading();
        sending();
        drawing();
        entries();
        entriesKept();
        papersFull();
        lastRoomForPapers();
        oneAfterTheOther();
        Check.end();
    }

    private static void days() {
        TwoSeas sea = new TwoSeas();
        Check.due("28 0", sea.days(0), -2);
        Check.due("28 -1", sea.days(-1), -2);
        Check.due("28 201", sea.days(201), -2);
        Check.due("28 far too many", sea.days(Integer.MAX_VALUE), -2);
        Check.due("28 1", sea.days(1), 1);
        for (int i = 1; i <= 14; i++) {
            Check.due("28 200", sea.days(200), 1 + 200 * i);
        }
        Check.due("28 beyond", sea.days(199), -2);
        Check.due("28 up to the last", sea.days(198), 2999);
        Check.due("28 behind the last", sea.days(1), -2);
        Check.due("28 the day stays", sea.count(4), 2999);
    }

    private static void row(TwoSeas sea, int i, int... due) {
        for (int what = 0; what < due.length; what++) {
            Check.due("29 entry(" + i + ", " + what + ")", sea.entry(i, what), due[what]);
        }
    }

    private static void buying() {
        // Prices 20 x 5, 21 x 5, 22 x 2 make 249; the next one would cost 22.
        TwoSeas sea = Check.atFactory(270, "buy 0 99");
        Check.due("28 bought", sea.stock(1, 0), 12);
        Check.due("28 left", sea.bullion(1, 0), 21);
        row(sea, 0, 20, 1, 0, 0, 12, 249, 0, 0);
        sea.days(1);
        Check.due("28 heat 7 next day, price 21: one more", sea.stock(1, 0), 13);
        Check.due("28 none left", sea.bullion(1, 0), 0);
        TwoSeas none = Check.atFactory(1000, "buy 1 0");
        Check.due("28 buy 0", none.stock(1, 1), 0);
        Check.due("29 nothing is no entry", none.count(5), 0);
        Check.due("28 just the price", Check.atFactory(20, "buy 2 5").stock(1, 2), 1);
        Check.due("28 not the price", Check.atFactory(19, "buy 2 5").stock(1, 2), 0);
    }

    private static void keeping() {
        TwoSeas sea = Check.atFactory(100, "keep 60;buy 0 9;keep 0;buy 1 1;keep 9999;buy 2 9");
        Check.due("28 beyond keep", sea.stock(1, 0), 2);
        Check.due("28 another keep", sea.stock(1, 1), 1);
        Check.due("28 keep beyond all", sea.stock(1, 2), 0);
        Check.due("29 keep is no entry", sea.count(5), 2);
        row(sea, 1, 20, 1, 0, 1, 1, 20, 0, 3);
        TwoSeas first = Check.atFactory(100, "buy 0 1;keep 100");
        first.days(2);
        Check.due("28 keep is 0 ahead of the first", first.stock(1, 0), 3);
        TwoSeas tested = Check.atFactory(100, "keep 100 if day=1;buy 0 1");
        Check.due("28 a keep whose tests fail is not done", tested.stock(1, 0), 1);
    }

    private static void heat() {
        TwoSeas sea = Check.atFactory(10000, "buy 0 23 if day=20");
        Check.due("28 heat 23", sea.price(1, 0), 24);
        int[] due = {23, 22, 21, 20, 20};
        for (int i = 0; i < due.length; i++) {
            sea.days(1);
            Check.due("28 cooler by 5, " + i, sea.price(1, 0), due[i]);
        }
        sea.base(1, 0, 1);
        Check.due("28 never below the base", sea.price(1, 0), 1);
        TwoSeas ten = Check.atFactory(10000, "buy 0 10 if day=20");
        Check.due("28 heat 10", ten.price(1, 0), 22);
        ten.days(1);
        Check.due("28 heat 5", ten.price(1, 0), 21);
        ten.days(1);
        Check.due("28 heat 0", ten.price(1, 0), 20);
    }

    private static void advances() {
        TwoSeas sea = Check.atFactory(1000, "advance 2 13 if day<31");
        sea.factory(1, 2, 50);
        Check.due("28 coins, cut", sea.bullion(1, 0), 1000 - 234);
        row(sea, 0, 20, 1, 1, 2, 13, 234, 0, 0);
        Check.due("30 all", sea.open(1, 2), 13);
        Check.due("30 another sort", sea.open(1, 1), 0);
        Check.due("30 another factory", sea.open(2, 2), 0);
        Check.due("30 the house", sea.open(0, 2), -1);
        Check.due("30 place 5", sea.open(5, 2), -1);
        Check.due("30 sort 4", sea.open(1, 4), -1);
        Check.due("30 sort -1", sea.open(1, -1), -1);
        sea.days(9);
        Check.due("30 not yet", sea.open(1, 2), 13);
        Check.due("28 one at a time", sea.count(5), 1);
        int[] open = {11, 9, 7, 5, 0};
        int[] stock = {1, 2, 3, 4, 7};
        for (int i = 0; i < 5; i++) {
            sea.days(i == 0 ? 1 : 10);
            Check.due("30 after fifth " + i, sea.open(1, 2), open[i]);
            Check.due("28 came, less spoilt, " + i, sea.stock(1, 2), stock[i]);
        }
        sea.days(50);
        Check.due("28 no more comes", sea.stock(1, 2), 7);
        Check.due("28 13 x 20 x 9 by 10 is just there", Check.atFactory(234, "advance 2 13").open(1, 2), 13);
        Check.due("28 a coin short", Check.atFactory(233, "advance 2 13").open(1, 2), 0);
        Check.due("28 beyond keep", Check.atFactory(234, "keep 1;advance 2 13").open(1, 2), 0);
        TwoSeas odd = Check.atFactory(0, null);
        Check.due("28 no order, no advance", odd.open(1, 0), 0);
    }

    private static void smallAdvances() {
        TwoSeas sea = Check.atFactory(100, "advance 0 4;advance 1 0");
        Check.due("29 an advance of 0 is none", sea.count(5), 1);
        sea.days(49);
        Check.due("28 a fifth of 4 is 0", sea.stock(1, 0), 0);
        Check.due("30 all left", sea.open(1, 0), 4);
        Check.due("28 just one was given", sea.bullion(1, 0), 28);
        sea.base(1, 0, 7);
        sea.days(1);
        Check.due("28 the fifth time all", sea.stock(1, 0), 4);
        Check.due("28 and the next is given that day", sea.open(1, 0), 4);
        row(sea, 1, 70, 1, 1, 0, 4, 25, 0, 0);

        TwoSeas free = new TwoSeas();
        free.base(1, 0, 1);
        free.factory(1, 0, 20);
        free.ship(0, 1);
        free.take();
        Check.write(free, 1, "advance 0 1");
        free.copy(0, 0);
        free.sail(0, 1);
        free.days(20);
        Check.due("28 nine tenths of 1, cut, is 0 coins", free.open(1, 0), 1);
        row(free, 0, 20, 1, 1, 0, 1, 0, 0, 0);
        free.days(49);
        Check.due("28 one is open as long as its bale is to come", free.count(5), 1);
        free.days(1);
        Check.due("28 the fifth time it comes", free.stock(1, 0), 1);
        Check.due("28 and another is given", free.count(5), 2);
        TwoSeas fifths = Check.atFactory(1000, "advance 0 15 if day=20");
        fifths.days(10);
        Check.due("28 a fifth of 15", fifths.stock(1, 0), 3);
    }

    private static void lading() {
        TwoSeas sea = new TwoSeas();
        sea.factory(1, 0, 20);
        sea.factory(1, 1, 20);
        sea.bullion(1, 10000);
        sea.person(1, 0);
        for (int i = 0; i < 2; i++) {
            sea.ship(0, 10);
            sea.take();
        }
        Check.write(sea, 1, "buy 0 4;buy 1 9;lade 0 3;lade 1 99");
        sea.copy(0, 1);
        sea.sail(0, 1);
        sea.sail(1, 1);
        sea.days(20);
        Check.due("28 no more than told", sea.shipOf(0, 5), 3);
        Check.due("28 no more than there is room for", sea.shipOf(0, 6), 7);
        Check.due("28 stock is less", sea.stock(1, 1), 2);
        Check.due("28 just the least ship", sea.shipOf(1, 2), 10);
        row(sea, 2, 20, 1, 2, 0, 3, 0, 0, 2);
        row(sea, 3, 20, 1, 2, 1, 7, 0, 0, 3);
        sea.days(1);
        Check.due("29 a full ship gets nothing", sea.count(5), 6);
        Check.due("28 nor does the next one", sea.shipOf(1, 2), 10);

        TwoSeas few = Check.atFactory(40, "lade 3 9;buy 3 9;lade 3 1");
        few.person(1, 0);
        few.stow(0, 0, 20);
        Check.due("28 in the order of the order", few.shipOf(0, 8), 1);
        Check.due("29 nothing there ahead of buying", few.entry(0, 2), 0);
        few.days(1);
        Check.due("28 no more than stock has", few.shipOf(0, 8), 2);
        Check.due("28 beside private tons", few.shipOf(0, 2), 38);
    }

    private static void sending() {
        TwoSeas sea = new TwoSeas();
        sea.factory(1, 0, 20);
        sea.factory(1, 1, 20);
        sea.bullion(1, 10000);
        for (int i = 0; i < 3; i++) {
            sea.ship(0, 5 + 5 * i);
            sea.take();
        }
        Check.write(sea, 1, "buy 0 9;lade 0 9;sail 8");
        sea.copy(0, 1);
        sea.sail(1, 1);
        sea.days(1);
        sea.sail(0, 1);
        sea.days(19);
        Check.due("28 with 9 aboard it leaves", sea.shipOf(1, 0), -1);
        Check.due("28 its voyage", sea.voyage(2, 0), 1);
        Check.due("28 as it left", sea.voyage(2, 6), 9);
        row(sea, 2, 20, 1, 3, -1, 2, 0, 0, 2);
        Check.due("28 the invoice", sea.voyage(2, 10), 1);
        Check.due("28 is written there", sea.known(1, 1), 20);
        Check.due("28 a copy is aboard", sea.shipOf(1, 9), 1);
        Check.due("28 that was made", sea.paper(1, 4), 1);
        sea.days(5);
        Check.due("28 5 tons never make 8 bales", sea.shipOf(0, 0), 1);
        sea.days(15);
        Check.due("28 the invoice is read", sea.known(1, 0), 40);
        Check.due("28 stock at the house", sea.stock(0, 0), 9);

        TwoSeas empty = Check.atFactory(0, "sail 0");
        Check.due("28 one bale at least", empty.shipOf(0, 0), 1);
        TwoSeas one = Check.atFactory(20, "buy 0 1;lade 0 1;sail 0");
        Check.due("28 sail 0 with one", one.shipOf(0, 0), -1);
    }

    private static void drawing() {
        TwoSeas sea = Check.atFactory(99, "draw 100");
        Check.due("28 more bullion", sea.bullion(1, 0), 199);
        row(sea, 0, 20, 1, 4, -1, 1, 100, 0, 0);
        sea.bullion(1, -199);
        sea.days(10);
        Check.due("28 one open bill at a time", sea.count(1), 2);
        Check.due("28 not with so much", Check.atFactory(100, "draw 100").count(1), 1);
        Check.due("28 draw 0", Check.atFactory(0, "draw 0").count(1), 1);
    }

    private static void entries() {
        TwoSeas sea = Check.atFactory(100, "buy 0 1");
        row(sea, 0, 20, 1, 0, 0, 1, 20, 0, 0);
        Check.due("29 entry 1", sea.entry(1, 0), -5);
        Check.due("29 entry -1", sea.entry(-1, 0), -5);
        Check.due("29 what 8", sea.entry(0, 8), -5);
        Check.due("29 what -1", sea.entry(0, -1), -5);
    }

    private static void entriesKept() {
        TwoSeas sea = Check.atFactory(1000000, "buy 0 1;buy 1 1;buy 2 1");
        sea.days(166);
        Check.due("29 501 entries", sea.count(5), 501);
        row(sea, 499, 186, 1, 0, 1, 1, 20, 0, 1);
        Check.due("29 the first 500 are kept", sea.entry(500, 0), -5);
        sea.days(1);
        Check.due("29 counted still", sea.count(5), 504);
        Check.due("28 done still", sea.stock(1, 2), 168);
        Check.due("39 no invoice", sea.gain(), 0);
    }

    private static void papersFull() {
        TwoSeas sea = Check.atFactory(0, "draw 50 if day>20;buy 0 1 if day>20;lade 0 1;sail 1");
        for (int i = 1; i < 150; i++) {
            sea.letter(0, 1);
        }
        sea.days(1);
        Check.due("28 without room no bill", sea.bullion(1, 0), 0);
        Check.due("29 and no entry", sea.count(5), 0);
        sea.bullion(1, 20);
        sea.days(1);
        Check.due("28 without room it sails", sea.shipOf(0, 0), -1);
        Check.due("28 but has no invoice", sea.voyage(1, 10), -1);
        Check.due("28 and no copy", sea.shipOf(0, 9), 0);
        sea.days(20);
        Check.due("28 it comes", sea.stock(0, 0), 1);
        Check.due("26 books join", sea.voyage(1, 11), 0);
        Check.due("39 what was bought is not known", sea.gain(), 0);
    }

    private static void lastRoomForPapers() {
        TwoSeas sea = Check.atFactory(0, "draw 50 if day=21;buy 0 1;lade 0 1;sail 1 if day=22");
        for (int i = 1; i < 148; i++) {
            sea.letter(0, 1);
        }
        sea.days(1);
        Check.due("28 room for a bill", sea.bill(148, 0), 0);
        sea.days(1);
        Check.due("28 room for an invoice", sea.voyage(1, 10), 149);
        Check.due("48 full", sea.count(1), 150);
    }

    /** Ships by numbers, then bills, then factories: what comes that day serves that day. */
    private static void oneAfterTheOther() {
        TwoSeas sea = new TwoSeas();
        for (int p = 1; p <= 4; p++) {
            sea.factory(p, 0, 20);
            Check.write(sea, p, "buy 0 1");
            sea.ship(p - 1, 5);
            sea.take();
            sea.bullion(0, 40);
            sea.copy(p - 1, p - 1);
            sea.load(p - 1, 40);
        }
        for (int p = 4; p >= 1; p--) {
            sea.sail(p - 1, p);
        }
        sea.days(20);
        for (int p = 1; p <= 4; p++) {
            row(sea, p - 1, 20, p, 0, 0, 1, 20, p - 1, 0);
        }
        Check.due("28 coins that came were spent that day", sea.bullion(4, 0), 20);
    }
}
