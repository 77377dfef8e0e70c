/** Promises 42 to 44: what is heard, plans. */
public final class PlansTest {
    public static void main(String[] args) {
        heard();
        heardByPaper0();
        heardLatestWritten();
        years();
        plans();
        plansAgainstAll();
        Check.end();
    }

    private static void heard() {
        TwoSeas sea = Check.atFactory(1000, "buy 0 3;buy 1 1;lade 1 1;sail 2");
        sea.letter(1, 0);
        sea.letter(1, 2);
        sea.copy(1, 0);
        sea.days(1);
        Check.due("42 the report left", sea.shipOf(0, 1), 41);
        sea.days(30);
        Check.due("42 as the stock was then", sea.heard(1, 0, 41), 3);
        Check.due("42 from that day on", sea.heard(1, 0, 40), -1);
        Check.due("42 of a sort that was laden", sea.heard(1, 1, 41), 0);
        Check.due("42 days to come too", sea.heard(1, 0, Integer.MAX_VALUE), 3);
        Check.due("42 another factory", sea.heard(2, 0, 50), -1);
        Check.due("42 the house", sea.heard(0, 0, 50), -5);
        Check.due("42 place 5", sea.heard(5, 0, 50), -5);
        Check.due("42 sort 4", sea.heard(1, 4, 50), -5);
        Check.due("42 sort -1", sea.heard(1, -1, 50), -5);
        Check.due("42 day -1", sea.heard(1, 0, -1), -5);
        Check.due("42 day 0", sea.heard(1, 0, 0), -1);
    }

    /** The only report is paper 0, and the latest paper of all. */
    private static void heardByPaper0() {
        TwoSeas sea = new TwoSeas();
        Check.due("12 a report", sea.letter(1, 0), 0);
        Check.due("42 not known", sea.heard(1, 0, 9999), -1);
        TwoSeas full = Check.atFactory(1000, "buy 0 1;lade 0 1 if day>20;sail 1");
        for (int i = 1; i < 149; i++) {
            full.letter(0, 1);
        }
        int report = full.letter(1, 0);
        Check.due("12 the last paper", report, 149);
        full.copy(report, 0);
        full.days(40);
        Check.due("42 by the last paper", full.heard(1, 0, 41), 1);
    }

    /** The report written later came first: the one that comes behind it tells nothing new. */
    private static void heardLatestWritten() {
        TwoSeas sea = new TwoSeas();
        sea.factory(1, 0, 20);
        sea.factory(1, 1, 100);
        sea.bullion(1, 10000);
        for (int i = 0; i < 2; i++) {
            sea.ship(i, 1);
            sea.take();
        }
        Check.write(sea, 1, "buy 0 2;buy 3 1;lade 3 1;sail 1 if not day=20");
        sea.copy(0, 0);
        sea.sail(0, 1);
        sea.sail(1, 1);
        sea.days(20);
        int early = sea.letter(1, 0);
        sea.copy(early, 0);
        sea.days(1);
        Check.due("42 the slow ship", sea.shipOf(0, 1), 121);
        sea.factory(1, 1, 20);
        sea.bullion(1, -9000);
        int late = sea.letter(1, 0);
        int later = sea.letter(1, 0);
        sea.copy(late, 1);
        sea.copy(later, 1);
        sea.days(2);
        Check.due("42 the fast ship", sea.shipOf(1, 1), 42);
        sea.days(100);
        Check.due("42 the early one is known", sea.known(early, 0), 121);
        Check.due("42 ahead of both", sea.heard(1, 0, 41), -1);
        Check.due("42 by the one that came first", sea.heard(1, 0, 42), 4);
        Check.due("42 by the one that was written latest", sea.heard(1, 0, 121), 4);
    }

    private static void years() {
        TwoSeas sea = new TwoSeas();
        Check.due("43 was 0", sea.year(3, 3, 999), 0);
        Check.due("43 was 999", sea.year(3, 3, 0), 999);
        Check.due("43 year 4", sea.year(4, 0, 1), -1);
        Check.due("43 year -1", sea.year(-1, 0, 1), -1);
        Check.due("43 sort 4", sea.year(0, 4, 1), -1);
        Check.due("43 sort -1", sea.year(0, -1, 1000), -1);
        Check.due("43 1000", sea.year(0, 0, 1000), -2);
        Check.due("43 -1", sea.year(0, 0, -1), -2);
        Check.due("43 unchanged", sea.year(0, 0, 1), 0);
    }

    private static void plan(TwoSeas sea, int tons, int coins, int... due) {
        for (int what = 0; what < due.length; what++) {
            Check.due("44 plan(1, " + tons + ", " + coins + ", " + what + ")", sea.plan(1, tons, coins, what), due[what]);
        }
    }

    private static void plans() {
        int none = -1000000000;
        TwoSeas sea = new TwoSeas();
        plan(sea, 200, 1000000, 0, 0, 0, 0, 0);
        for (int y = 0; y < 4; y++) {
            for (int sort = 0; sort < 4; sort++) {
                sea.year(y, sort, 25);
            }
        }
        plan(sea, 200, 1000000, 1000, 5, 5, 5, 5);
        plan(sea, 199, 1000000, 950, 4, 5, 5, 5);
        plan(sea, 30, 1000000, 150, 0, 0, 0, 3);
        plan(sea, 200, 1399, 300, 0, 0, 1, 5);
        plan(sea, 9, 1000000, 0, 0, 0, 0, 0);
        plan(sea, 10, 200, 50, 0, 0, 0, 1);
        plan(sea, 10, 199, 0, 0, 0, 0, 0);
        plan(sea, 0, 0, 0, 0, 0, 0, 0);
        sea.year(2, 3, 0);
        plan(sea, 30, 1000000, 150, 0, 0, 3, 0);
        Check.due("44 the house", sea.plan(0, 1, 1, 0), none);
        Check.due("44 place 5", sea.plan(5, 1, 1, 0), none);
        Check.due("44 tons -1", sea.plan(1, -1, 1, 0), none);
        Check.due("44 tons 201", sea.plan(1, 201, 1, 0), none);
        Check.due("44 coins -1", sea.plan(1, 1, -1, 0), none);
        Check.due("44 coins 1000001", sea.plan(1, 1, 1000001, 0), none);
        Check.due("44 what -1", sea.plan(1, 1, 1, -1), none);
        Check.due("44 what 5", sea.plan(1, 1, 1, 5), none);
        sea.base(1, 2, 1);
        plan(sea, 30, 1000000, 720, 0, 0, 3, 0);
    }

    /** Small numbers make many plans as good as one another: the first must win. */
    private static void plansAgainstAll() {
        java.util.Random random = new java.util.Random(44);
        for (int round = 0; round < 20; round++) {
            TwoSeas sea = new TwoSeas();
            int[] cost = new int[4];
            int[][] brings = new int[4][4];
            for (int sort = 0; sort < 4; sort++) {
                cost[sort] = 1 + random.nextInt(6);
                sea.base(1, sort, cost[sort]);
                for (int y = 0; y < 4; y++) {
                    brings[y][sort] = random.nextInt(12);
                    sea.year(y, sort, brings[y][sort]);
                }
            }
            int tons = random.nextInt(201);
            int coins = random.nextInt(700);
            plan(sea, tons, coins, bestOfAll(cost, brings, tons, coins));
        }
    }

    private static int[] bestOfAll(int[] cost, int[][] brings, int tons, int coins) {
        int[] best = null;
        for (int code = 0; code < 6 * 6 * 6 * 6; code++) {
            int[] lots = {0, code / 216, code / 36 % 6, code / 6 % 6, code % 6};
            int bales = 0;
            int spent = 0;
            int[] year = new int[4];
            for (int sort = 0; sort < 4; sort++) {
                bales += 10 * lots[sort + 1];
                spent += 10 * lots[sort + 1] * cost[sort];
                for (int y = 0; y < 4; y++) {
                    year[y] += 10 * lots[sort + 1] * brings[y][sort];
                }
            }
            lots[0] = java.util.Arrays.stream(year).min().getAsInt() - spent;
            if (bales <= tons && spent <= coins && (best == null || lots[0] > best[0])) {
                best = lots;
            }
        }
        return best;
    }
}
