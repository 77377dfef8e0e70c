/** Promises 35 to 41: sales and shares. */
public final class SalesTest {
    public static void main(String[] args) {
        wanting();
        selling();
        secondPrices();
        shares();
        gain();
        gainByInvoices();
        dividing();
        Check.end();
    }

    /** The house has 20 bales of sort 1 that cost 430 at factory 1, known by the invoice. */
    private static TwoSeas withBales() {
        TwoSeas sea = Check.atFactory(1000, "buy 1 20 if day=20;lade 1 99;sail 1");
        sea.days(20);
        return sea;
    }

    private static void wanting() {
        TwoSeas sea = withBales();
        Check.due("35 buyer 6", sea.wants(6, 0, 1, 1), -1);
        Check.due("35 buyer -1", sea.wants(-1, 0, 1, 1), -1);
        Check.due("35 sort 4", sea.wants(0, 4, 1, 1), -1);
        Check.due("35 sort -1", sea.wants(0, -1, 100, 1), -1);
        Check.due("35 -1", sea.wants(0, 0, -1, 1), -2);
        Check.due("35 100", sea.wants(0, 0, 100, 1), -2);
        Check.due("35 limit -1", sea.wants(0, 0, 1, -1), -2);
        Check.due("35 limit 1000", sea.wants(0, 0, 1, 1000), -2);
        Check.due("35 wanted none", sea.wants(5, 1, 99, 999), 0);
        Check.due("35 wanted 99", sea.wants(5, 1, 3, 0), 99);
        Check.due("35 of each sort", sea.wants(5, 2, 1, 1), 0);
        sea.sale(1, 2);
        Check.due("35 less what it bought", sea.wants(5, 1, 0, 0), 1);
    }

    private static void selling() {
        TwoSeas sea = withBales();
        Check.due("36 sort 4", sea.sale(4, 1), -1);
        Check.due("36 sort -1", sea.sale(-1, 0), -1);
        Check.due("36 0", sea.sale(1, 0), -2);
        Check.due("36 100", sea.sale(1, 100), -2);
        Check.due("36 not so many", sea.sale(1, 21), -3);
        Check.due("36 none of that sort", sea.sale(0, 1), -3);
        Check.due("36 nobody wants any", sea.sale(1, 20), 0);
        Check.due("36 they stay", sea.stock(0, 1), 20);
        sea.wants(3, 1, 2, 50);
        Check.due("36 one buyer alone pays 0", sea.sale(1, 20), 0);
        Check.due("36 what nobody wants stays", sea.stock(0, 1), 18);
        Check.due("37 bales", sea.bought(3, 0), 2);
        Check.due("37 coins", sea.bought(3, 1), 0);
    }

    private static void secondPrices() {
        TwoSeas sea = withBales();
        sea.wants(0, 1, 2, 30);
        sea.wants(1, 1, 1, 25);
        sea.wants(2, 1, 5, 30);
        sea.wants(3, 2, 9, 999);
        // 0 twice at 30, then 2 at 25 (of buyer 1) as long as it wants: five times, then 1 at 0.
        Check.due("36 three", sea.sale(1, 3), 30 + 30 + 25);
        Check.due("37 of several the least", sea.bought(0, 0), 2);
        Check.due("37 at the other's limit", sea.bought(0, 1), 60);
        Check.due("37 the next", sea.bought(2, 0), 1);
        Check.due("37 at the next limit", sea.bought(2, 1), 25);
        Check.due("36 four more and the last", sea.sale(1, 9), 4 * 25);
        Check.due("37 the last one pays nothing", sea.bought(1, 1), 0);
        Check.due("37 but has it", sea.bought(1, 0), 1);
        Check.due("36 8 are sold", sea.stock(0, 1), 12);
        Check.due("48 coins of all sales", sea.count(8), 185);
        Check.due("36 the house has the coins", sea.bullion(0, 0), 185);
        Check.due("37 another sort's want counts not", sea.bought(3, 0), 0);
        Check.due("37 buyer 5", sea.bought(5, 0), 0);
        Check.due("37 buyer 6", sea.bought(6, 0), -1);
        Check.due("37 buyer -1", sea.bought(-1, 0), -1);
        Check.due("37 what 2", sea.bought(0, 2), -1);
        Check.due("37 what -1", sea.bought(0, -1), -1);
        sea.wants(4, 1, 1, 0);
        sea.wants(5, 1, 1, 0);
        Check.due("36 limits of 0", sea.sale(1, 2), 0);
        Check.due("36 are wants too", sea.stock(0, 1), 10);
        sea.wants(0, 1, 1, 40);
        sea.wants(1, 1, 1, 50);
        Check.due("36 at the limit of buyer 0", sea.sale(1, 1), 40);
    }

    private static void shares() {
        TwoSeas sea = new TwoSeas();
        Check.due("38 one", sea.shares(0, 7, 1), 101);
        Check.due("38 some", sea.shares(0, 7, 29), 130);
        Check.due("38 all that are left", sea.shares(0, 7, 70), 200);
        Check.due("41 none left", sea.holder(0, 0), 0);
        Check.due("38 from one that has none", sea.shares(0, 7, 1), -2);
        Check.due("38 more than it has", sea.shares(1, 7, 101), -2);
        Check.due("38 0", sea.shares(1, 7, 0), -2);
        Check.due("38 -1", sea.shares(1, 7, -1), -2);
        Check.due("38 to itself", sea.shares(1, 1, 5), -2);
        Check.due("38 holder 8", sea.shares(8, 0, 1), -1);
        Check.due("38 holder -1", sea.shares(-1, 0, 1), -1);
        Check.due("38 to holder 8", sea.shares(1, 8, 0), -1);
        Check.due("38 to holder -1", sea.shares(1, -1, 0), -1);
        Check.due("41 shares", sea.holder(7, 0), 200);
        Check.due("41 coins", sea.holder(7, 1), 0);
        Check.due("41 holder 8", sea.holder(8, 0), -1);
        Check.due("41 holder -1", sea.holder(-1, 0), -1);
        Check.due("41 what 2", sea.holder(0, 2), -1);
        Check.due("41 what -1", sea.holder(0, -1), -1);
    }

    private static void gain() {
        TwoSeas sea = withBales();
        Check.due("39 less what was bought", sea.gain(), -430);
        sea.wants(0, 1, 99, 500);
        sea.wants(1, 1, 99, 400);
        sea.sale(1, 2);
        Check.due("39 and the sales", sea.gain(), 800 - 430);
        sea.bullion(0, 1000);
        Check.due("40 paid", sea.divide(80), 80);
        Check.due("39 less dividends", sea.gain(), 290);
    }

    /** Costs count from the first invoice on that was written on their day or later and is known. */
    private static void gainByInvoices() {
        TwoSeas sea = Check.atFactory(100000, "buy 0 1;advance 1 10;lade 0 1;sail 2;draw 9999");
        sea.person(1, 1);
        sea.council(1, 2, 1, 1, 0);
        Check.due("39 not known", sea.gain(), 0);
        sea.days(1);
        Check.due("26 left", sea.voyage(1, 3), 21);
        sea.council(1, 2, 1, 1, 0);
        sea.days(19);
        Check.due("39 not known yet", sea.gain(), 0);
        sea.days(1);
        Check.due("39 of days 20, 21: two, the advance, two councils", sea.gain(), -(40 + 180 + 40));
        sea.days(100);
        Check.due("39 later ones are not known", sea.gain(), -260);
    }

    private static void dividing() {
        TwoSeas sea = withBales();
        sea.wants(0, 1, 99, 999);
        sea.wants(1, 1, 99, 900);
        sea.sale(1, 1);
        Check.due("39 gain", sea.gain(), 470);
        Check.due("40 below 0", sea.divide(-1), -2);
        Check.due("40 more than gain", sea.divide(471), -2);
        sea.bullion(0, -800);
        Check.due("40 more than bullion", sea.divide(101), -2);
        sea.shares(0, 1, 50);
        Check.due("40 each part is cut", sea.divide(20), 1 + 3 + 6 * 2);
        Check.due("41 50 of 800", sea.holder(0, 1), 1);
        Check.due("41 150 of 800", sea.holder(1, 1), 3);
        Check.due("41 100 of 800", sea.holder(7, 1), 2);
        Check.due("40 the house paid", sea.bullion(0, 0), 84);
        Check.due("48 dividends paid", sea.count(9), 16);
        Check.due("39 gain is less by what was paid", sea.gain(), 454);
        Check.due("40 nothing", sea.divide(0), 0);
        Check.due("40 all of bullion", sea.divide(84), 5 + 15 + 6 * 10);
        Check.due("41 together", sea.holder(1, 1), 18);
        Check.due("40 with a loss not even 0", withBales().divide(0), -2);
        Check.due("40 0 of 0", new TwoSeas().divide(0), 0);
    }
}
