/** Promises 9 to 18: THE TAPE, papers, orders in force. */
public final class PapersTest {
    public static void main(String[] args) {
        feeding();
        mailing();
        orders();
        fullOfPapers();
        letters();
        copies();
        knowing();
        ofPapers();
        latestOrderCounts();
        orderOfReading();
        orderOfOneDay();
        tests();
        Check.end();
    }

    private static void feeding() {
        TwoSeas sea = new TwoSeas();
        Check.due("9 none", sea.feed(5, 0), 0);
        Check.due("9 -1", sea.feed(5, -1), -2);
        Check.due("9 5", sea.feed(5, 5), -2);
        Check.due("9 the lowest three, the highest first", sea.feed(0x786b6565, 3), 3);
        Check.due("9 two", sea.feed(0x7020, 2), 5);
        Check.due("9 one", sea.feed(0x39, 1), 6);
        Check.due("9 they are keep 9", sea.order(1), 0);
        for (int i = 1; i <= 29; i++) {
            Check.due("9 four", sea.feed(-1, 4), 4 * i);
        }
        Check.due("9 117", sea.feed(0, 1), 117);
        Check.due("9 full", sea.feed(0, 4), -4);
        Check.due("9 bad ahead of full", sea.feed(0, 5), -2);
        Check.due("9 120", sea.feed(0, 3), 120);
        Check.due("9 full by one", sea.feed(0, 1), -4);
        Check.due("9 none in a full one", sea.feed(0, 0), 120);
        Check.due("9 bytes above 127 are no order", sea.order(1), -10);
    }

    private static void mailing() {
        TwoSeas sea = new TwoSeas();
        sea.sheet(0, 2, 64);
        sea.cell(0, 1, 0x7fffff6b);
        sea.cell(0, 2, 'e');
        sea.cell(0, 3, 'e' - 256);
        sea.cell(0, 4, 'p');
        sea.cell(0, 5, ' ' + 512);
        sea.cell(0, 6, '3');
        Check.due("10 items from 1 on", sea.mail(0, 2, 1, 6), 6);
        Check.due("10 they are keep 3", sea.order(2), 0);
        Check.due("10 sheet 3", sea.mail(3, 0, 0, 1), -1);
        Check.due("10 sheet -1", sea.mail(-1, 0, 0, 1), -1);
        Check.due("10 sort 3", sea.mail(0, 3, 0, 1), -1);
        Check.due("10 sort -1", sea.mail(0, -1, 0, -1), -1);
        Check.due("10 n below 0", sea.mail(0, 2, 0, -1), -2);
        Check.due("10 n below 0 of a missing one", sea.mail(1, 2, 0, Integer.MIN_VALUE), -2);
        Check.due("10 another sort", sea.mail(0, 0, 0, 1), -13);
        Check.due("10 another sort ahead of items", sea.mail(0, 1, 99, 1), -13);
        Check.due("10 missing", sea.mail(2, 1, 99, 1), -11);
        Check.due("10 beyond", sea.mail(0, 2, 60, 5), -12);
        Check.due("10 far beyond", sea.mail(0, 2, 1, Integer.MAX_VALUE), -12);
        Check.due("10 from far beyond", sea.mail(0, 2, Integer.MAX_VALUE, 2), -12);
        Check.due("10 from below", sea.mail(0, 2, -1, 1), -12);
        Check.due("10 n 0 asks nothing", sea.mail(2, 1, -9, 0), 0);
        Check.due("10 n 0 of another sort", sea.mail(0, 1, -9, 0), 0);
        Check.due("10 all", sea.mail(0, 2, 0, 64), 64);
        Check.due("10 full", sea.mail(0, 2, 0, 57), -4);
        Check.due("10 items ahead of full", sea.mail(0, 2, 8, 57), -12);
        Check.due("10 just full", sea.mail(0, 2, 0, 56), 120);
        Check.due("10 n 0 in a full one", sea.mail(0, 2, 0, 0), 120);
    }

    private static void orders() {
        TwoSeas sea = new TwoSeas();
        fault(sea, "", 0);
        fault(sea, "x", 0);
        fault(sea, " buy 1 1", 0);
        fault(sea, "buy 4 1", 4);
        fault(sea, "buy 1  1", 6);
        fault(sea, "buy 1", 5);
        fault(sea, "buy 1 ", 6);
        fault(sea, "buy 1 12345", 10);
        fault(sea, "keep", 4);
        fault(sea, "keep x", 5);
        fault(sea, "keep 1 ", 7);
        fault(sea, "keep 1 of", 7);
        fault(sea, "keep 1 if", 9);
        fault(sea, "keep 1 if  day=1", 10);
        fault(sea, "keep 1 if not not day=1", 14);
        fault(sea, "keep 1 if notday=1", 13);
        fault(sea, "keep 1 if sx", 11);
        fault(sea, "keep 1 if price=1", 15);
        fault(sea, "keep 1 if price 1=1", 15);
        fault(sea, "keep 1 if price4=1", 15);
        fault(sea, "keep 1 if bullion0=1", 17);
        fault(sea, "keep 1 if day!1", 13);
        fault(sea, "keep 1 if day=", 14);
        fault(sea, "keep 1 if day=12345", 18);
        fault(sea, "keep 1 if day=1 xor day=1", 16);
        fault(sea, "keep 1 if day=1 and", 19);
        fault(sea, "keep 1 if day=1 or;", 18);
        fault(sea, "keep 1;", 7);
        fault(sea, "keep 1; keep 1", 7);
        fault(sea, "keep 1;;", 7);
        fault(sea, "buy 0 1 if day=1 and day=2 or day=3 and day=4 or day=5", 45);
        fault(sea, "keep 1;keep 1;keep 1;keep 1;keep 1;keep 1;keep 1", 41);
        Check.due("11 nothing was written", sea.count(1), 0);
        good(sea, "keep 1;keep 22;keep 333;keep 4444;keep 5;keep 6", 6);
        good(sea, "buy 0 1 if day=1 and day=2 or day=3 and day=4", 1);
        good(sea, "advance 3 0 if not price3<9999;lade 2 0012 if stock0>0 or not bullion=7;sail 1;draw 9 if ships>1", 4);
        Check.type(sea, "keep 1");
        Check.due("11 the house", sea.order(0), -1);
        Check.due("11 place 5", sea.order(5), -1);
        Check.due("11 THE TAPE stays", sea.count(6), 6);
        Check.due("11 good for factory 4", sea.order(4), 3);
        Check.due("11 THE TAPE is empty", sea.count(6), 0);
    }

    private static void fault(TwoSeas sea, String text, int place) {
        Check.due("11 order " + text, Check.write(sea, 1, text), -10 - place);
        Check.due("11 THE TAPE behind " + text, sea.count(6), 0);
    }

    private static void good(TwoSeas sea, String text, int paragraphs) {
        int number = sea.count(1);
        Check.due("11 order " + text, Check.write(sea, 1, text), number);
        Check.due("11 paragraphs of " + text, sea.paper(number, 5), paragraphs);
    }

    private static void fullOfPapers() {
        TwoSeas sea = new TwoSeas();
        for (int i = 0; i < 149; i++) {
            Check.due("12 number", sea.letter(i % 5, (i + 1) % 5), i);
        }
        Check.due("11 the last there is room for", Check.write(sea, 1, "keep 1"), 149);
        Check.due("12 full", sea.letter(0, 1), -4);
        Check.due("12 bad ahead of full", sea.letter(1, 1), -2);
        Check.type(sea, "keep 1");
        Check.due("11 full", sea.order(1), -4);
        Check.due("11 none ahead of full", sea.order(0), -1);
        Check.due("11 THE TAPE stays when full", sea.count(6), 6);
        Check.due("12 how many", sea.count(1), 150);
    }

    private static void letters() {
        TwoSeas sea = new TwoSeas();
        Check.due("12 between factories", sea.letter(1, 2), 0);
        Check.due("12 from the house", sea.letter(0, 4), 1);
        Check.due("12 from -1", sea.letter(-1, 0), -1);
        Check.due("12 from 5", sea.letter(5, 5), -1);
        Check.due("12 to -1", sea.letter(0, -1), -1);
        Check.due("12 to 5", sea.letter(0, 5), -1);
        Check.due("12 to itself", sea.letter(3, 3), -2);
        Check.due("12 kind", sea.paper(0, 0), 1);
        Check.due("12 where", sea.paper(0, 1), 1);
        Check.due("12 for", sea.paper(0, 3), 2);
    }

    private static void copies() {
        TwoSeas sea = new TwoSeas();
        sea.factory(1, 0, 20);
        sea.factory(1, 1, 20);
        sea.ship(0, 10);
        sea.letter(0, 1);
        sea.letter(1, 0);
        Check.due("13 paper 2", sea.copy(2, 0), -1);
        Check.due("13 paper -1", sea.copy(-1, 0), -1);
        Check.due("13 ship 1", sea.copy(0, 1), -1);
        Check.due("13 ship -1", sea.copy(0, -1), -1);
        Check.due("13 not known there", sea.copy(1, 0), -3);
        Check.due("13 first", sea.copy(0, 0), 1);
        Check.due("13 second", sea.copy(0, 0), 2);
        Check.due("13 aboard", sea.shipOf(0, 9), 2);
        sea.take();
        sea.sail(0, 1);
        Check.due("13 at sea", sea.copy(0, 0), -3);
        sea.days(20);
        Check.due("13 read ones are none any more", sea.shipOf(0, 9), 0);
        Check.due("13 made stays", sea.paper(0, 4), 2);
        Check.due("13 known where it was read", sea.copy(0, 0), 3);
        Check.due("13 full", sea.copy(0, 0), -4);
        Check.due("13 one that is for elsewhere", sea.copy(1, 0), 1);
        Check.due("13 both aboard", sea.shipOf(0, 9), 2);

        TwoSeas lost = new TwoSeas();
        lost.ship(0, 10);
        lost.letter(0, 1);
        lost.take();
        lost.copy(0, 0);
        lost.lose(lost.sail(0, 1));
        lost.days(120);
        Check.due("13 gone", lost.copy(0, 0), -3);
        Check.due("13 gone with all aboard", lost.shipOf(0, 9), 0);
        Check.due("14 never read", lost.known(0, 1), -1);
    }

    private static void knowing() {
        TwoSeas sea = Check.atFactory(0, "keep 1");
        Check.due("14 written", sea.known(0, 0), 0);
        Check.due("14 read", sea.known(0, 1), 20);
        Check.due("14 not", sea.known(0, 2), -1);
        Check.due("14 paper 1", sea.known(1, 0), -5);
        Check.due("14 paper -1", sea.known(-1, 0), -5);
        Check.due("14 place 5", sea.known(0, 5), -5);
        Check.due("14 place -1", sea.known(0, -1), -5);

        TwoSeas two = new TwoSeas();
        two.factory(1, 0, 20);
        two.factory(2, 0, 20);
        two.letter(0, 2);
        two.letter(0, 1);
        for (int i = 0; i < 2; i++) {
            two.ship(0, 5);
            two.take();
            two.copy(0, i);
            two.copy(1, i);
        }
        two.sail(0, 1);
        two.days(5);
        two.sail(1, 1);
        two.days(20);
        Check.due("14 from the first reading on", two.known(1, 1), 20);
        Check.due("14 a copy for elsewhere is not read", two.known(0, 1), -1);
        Check.due("14 it stays aboard", two.shipOf(0, 9), 1);
    }

    private static void ofPapers() {
        TwoSeas sea = Check.atFactory(5, "draw 77;buy 0 1;lade 0 1;sail 1");
        sea.person(1, 3);
        sea.person(1, 2);
        sea.council(1, 0, 1, 1, 2);
        int[][] due = {
            {2, 0, 0, 1, 1, 4},
            {5, 1, 20, 0, 0, 77},
            {4, 1, 20, 0, 1, 1},
            {3, 1, 20, 0, 0, 0},
            {6, 1, 20, 0, 0, 0},
        };
        for (int paper = 0; paper < due.length; paper++) {
            for (int what = 0; what < 6; what++) {
                Check.due("15 paper(" + paper + ", " + what + ")", sea.paper(paper, what), due[paper][what]);
            }
        }
        Check.due("15 how many", sea.count(1), due.length);
        Check.due("15 paper 5", sea.paper(5, 0), -5);
        Check.due("15 paper -1", sea.paper(-1, 0), -5);
        Check.due("15 what 6", sea.paper(0, 6), -5);
        Check.due("15 what -1", sea.paper(0, -1), -5);
    }

    private static void latestOrderCounts() {
        TwoSeas sea = new TwoSeas();
        sea.factory(1, 0, 20);
        Check.write(sea, 1, "buy 0 1;keep 5;buy 1 1;buy 0 2");
        Check.write(sea, 1, "buy 0 3;sail 9;buy 0 4 if day=1");
        Check.write(sea, 2, "keep 1");
        for (int i = 0; i < 2; i++) {
            sea.ship(0, 5);
            sea.take();
            sea.copy(i, i);
        }
        sea.copy(2, 0);
        sea.sail(0, 1);
        sea.days(3);
        sea.sail(1, 1);
        Check.due("16 none yet", sea.force(1), 0);
        Check.due("17 none yet", sea.forced(1, 0), -1);
        sea.days(17);
        Check.due("16 those of the first", sea.force(1), 4);
        Check.due("17 last of the first", sea.forced(1, 3), 3);
        sea.days(3);
        Check.due("16 both", sea.force(1), 5);
        int[] due = {1, 2, 10, 11, 12};
        for (int i = 0; i < due.length; i++) {
            Check.due("17 forced(1, " + i + ")", sea.forced(1, i), due[i]);
        }
        Check.due("17 behind the last", sea.forced(1, 5), -1);
        Check.due("17 -1", sea.forced(1, -1), -1);
        Check.due("17 the house", sea.forced(0, 0), -1);
        Check.due("17 place 5", sea.forced(5, 0), -1);
        Check.due("16 the house", sea.force(0), -1);
        Check.due("16 place 5", sea.force(5), -1);
        Check.due("16 place -1", sea.force(-1), -1);
        Check.due("16 another factory", sea.force(2), 0);
    }

    /** Orders stand by the day of reading, of one day by numbers, whichever ship brought them. */
    private static void orderOfReading() {
        TwoSeas sea = new TwoSeas();
        sea.factory(1, 0, 20);
        for (int i = 0; i < 4; i++) {
            Check.write(sea, 1, "buy " + i + " 1;keep " + i);
            sea.ship(0, 5);
            sea.take();
        }
        sea.copy(3, 0);
        sea.copy(2, 1);
        sea.copy(1, 2);
        sea.copy(0, 3);
        sea.sail(0, 1);
        sea.days(1);
        sea.sail(1, 1);
        sea.sail(2, 1);
        sea.days(1);
        sea.sail(3, 1);
        sea.days(20);
        int[] due = {30, 10, 20, 0, 1};
        Check.due("16 of four", sea.force(1), due.length);
        for (int i = 0; i < due.length; i++) {
            Check.due("17 by reading, forced(1, " + i + ")", sea.forced(1, i), due[i]);
        }
    }

    /** Two of one day, the later number by the ship that comes first. */
    private static void orderOfOneDay() {
        TwoSeas sea = new TwoSeas();
        sea.factory(1, 0, 20);
        for (int i = 0; i < 2; i++) {
            Check.write(sea, 1, "buy " + i + " 1;keep " + i);
            sea.ship(0, 5);
            sea.take();
        }
        sea.copy(1, 0);
        sea.copy(0, 1);
        sea.sail(0, 1);
        sea.sail(1, 1);
        sea.days(20);
        int[] due = {0, 10, 11};
        for (int i = 0; i < due.length; i++) {
            Check.due("17 of one day, forced(1, " + i + ")", sea.forced(1, i), due[i]);
        }
    }

    private static void tests() {
        holds(1, "keep 1");
        holds(1, "keep 1 if bullion=50");
        holds(0, "keep 1 if bullion<50");
        holds(0, "keep 1 if bullion>50");
        holds(1, "keep 1 if not bullion>50");
        holds(1, "keep 1 if ships=1");
        holds(1, "keep 1 if day=20");
        holds(0, "keep 1 if day>20");
        holds(1, "keep 1 if price3=20");
        holds(1, "keep 1 if stock2=0 and price0<21");
        holds(0, "keep 1 if stock2=0 and price0<20");
        holds(1, "keep 1 if day=20 or day=1 and day=2");
        holds(0, "keep 1 if day=1 or day=20 and day=2");
        holds(1, "keep 1 if day=1 and day=2 or day=20");
        holds(1, "keep 1 if day=1 or day=2 or not day=3 and day=20");
        holds(0, "keep 1 if day=1 and day=2 or day=3 and day=20");
        TwoSeas sea = Check.atFactory(50, "keep 1 if day<20 or day>30");
        Check.due("18 not now", sea.holds(1, 0), 0);
        sea.days(11);
        Check.due("18 now", sea.holds(1, 0), 1);
        sea.days(200);
        sea.days(148);
        Check.due("18 the last day of a year", sea.count(4), 379);
        Check.due("18 by the day of the year", sea.holds(1, 0), 1);
        sea.days(1);
        Check.due("18 day 380 is 20", sea.holds(1, 0), 0);
        Check.due("18 none such", sea.holds(1, 1), -1);
        Check.due("18 -1", sea.holds(1, -1), -1);
        Check.due("18 the house", sea.holds(0, 0), -1);
    }

    private static void holds(int due, String order) {
        Check.due("18 " + order, Check.atFactory(50, order).holds(1, 0), due);
    }
}
