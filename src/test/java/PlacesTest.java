/** Promises 1 to 8: a new object, places and persons. */
public final class PlacesTest {
    public static void main(String[] args) {
        newObject();
        factories();
        bases();
        prices();
        bullion();
        stock();
        persons();
        goings();
        Check.end();
    }

    private static void newObject() {
        TwoSeas sea = new TwoSeas();
        for (int what = 0; what <= 10; what++) {
            Check.due("1 count(" + what + ")", sea.count(what), 0);
        }
        for (int p = 0; p < 5; p++) {
            Check.due("1 bullion", sea.bullion(p, 0), 0);
            for (int sort = 0; sort < 4; sort++) {
                Check.due("1 stock", sea.stock(p, sort), 0);
                Check.due("1 price", sea.price(p, sort), p == 0 ? -1 : 20);
            }
        }
        Check.due("1 take", sea.take(), -1);
        Check.due("1 gain", sea.gain(), 0);
        Check.due("1 holder", sea.holder(7, 0), 100);
        Check.due("1 trace", sea.trace(0), -1);
        Check.due("1 sheet is missing", sea.cell(0, 0, 0), -11);
    }

    private static void factories() {
        TwoSeas sea = new TwoSeas();
        for (int p = 1; p <= 4; p++) {
            Check.due("2 out was", sea.factory(p, 0, 20), 120);
            Check.due("2 out is", sea.factory(p, 0, 240), 20);
            Check.due("2 back was", sea.factory(p, 1, 240), 120);
            Check.due("2 back is", sea.factory(p, 1, 20), 240);
            Check.due("2 spoilt was", sea.factory(p, 2, 50), 0);
            Check.due("2 spoilt is", sea.factory(p, 2, 0), 50);
        }
        Check.due("2 the house", sea.factory(0, 0, 20), -1);
        Check.due("2 place 5", sea.factory(5, 0, 20), -1);
        Check.due("2 what 3", sea.factory(1, 3, 20), -1);
        Check.due("2 what -1", sea.factory(1, -1, 20), -1);
        Check.due("2 none ahead of bad", sea.factory(0, 0, 9999), -1);
        Check.due("2 out 19", sea.factory(1, 0, 19), -2);
        Check.due("2 out 241", sea.factory(1, 0, 241), -2);
        Check.due("2 back 19", sea.factory(1, 1, 19), -2);
        Check.due("2 back 241", sea.factory(1, 1, 241), -2);
        Check.due("2 spoilt -1", sea.factory(1, 2, -1), -2);
        Check.due("2 spoilt 51", sea.factory(1, 2, 51), -2);
        Check.due("2 out unchanged", sea.factory(1, 0, 100), 240);
        Check.due("2 back unchanged", sea.factory(1, 1, 100), 20);
        Check.due("2 spoilt unchanged", sea.factory(1, 2, 1), 0);
    }

    private static void bases() {
        TwoSeas sea = new TwoSeas();
        Check.due("3 was", sea.base(4, 3, 999), 20);
        Check.due("3 is", sea.base(4, 3, 1), 999);
        Check.due("3 another sort", sea.base(4, 2, 7), 20);
        Check.due("3 another factory", sea.base(3, 3, 7), 20);
        Check.due("3 the house", sea.base(0, 0, 5), -1);
        Check.due("3 place 5", sea.base(5, 0, 5), -1);
        Check.due("3 sort -1", sea.base(1, -1, 5), -1);
        Check.due("3 sort 4", sea.base(1, 4, 0), -1);
        Check.due("3 0", sea.base(4, 3, 0), -2);
        Check.due("3 1000", sea.base(4, 3, 1000), -2);
        Check.due("3 unchanged", sea.price(4, 3), 1);
    }

    private static void prices() {
        TwoSeas sea = Check.atFactory(1000, "buy 1 11");
        Check.due("4 heat 11 gives 2 more", sea.price(1, 1), 22);
        Check.due("4 base counts at once", sea.base(1, 1, 30), 20);
        Check.due("4 base and heat", sea.price(1, 1), 32);
        Check.due("4 another sort", sea.price(1, 0), 20);
        Check.due("4 the house", sea.price(0, 0), -1);
        Check.due("4 place 5", sea.price(5, 0), -1);
        Check.due("4 place -1", sea.price(-1, 0), -1);
        Check.due("4 sort 4", sea.price(1, 4), -1);
        Check.due("4 sort -1", sea.price(1, -1), -1);
    }

    private static void bullion() {
        TwoSeas sea = new TwoSeas();
        Check.due("5 more", sea.bullion(0, 1000000), 1000000);
        Check.due("5 less", sea.bullion(0, -1000000), 0);
        Check.due("5 below 0", sea.bullion(0, -1), -2);
        Check.due("5 too much at once", sea.bullion(0, 1000001), -2);
        Check.due("5 far too much", sea.bullion(0, Integer.MAX_VALUE), -2);
        Check.due("5 too little at once", sea.bullion(0, -1000001), -2);
        Check.due("5 place 5", sea.bullion(5, 1), -1);
        Check.due("5 place -1", sea.bullion(-1, 2000000), -1);
        for (int i = 1; i <= 100; i++) {
            Check.due("5 up to the bound", sea.bullion(4, 1000000), 1000000L * i);
        }
        Check.due("5 beyond the bound", sea.bullion(4, 1), -2);
        Check.due("5 unchanged", sea.bullion(4, 0), 100000000);
        Check.due("5 the house has none of it", sea.bullion(0, 0), 0);
    }

    private static void stock() {
        TwoSeas sea = Check.atFactory(1000, "buy 3 2");
        Check.due("6 bought", sea.stock(1, 3), 2);
        Check.due("6 other sorts", sea.stock(1, 2), 0);
        Check.due("6 the house", sea.stock(0, 3), 0);
        Check.due("6 place -1", sea.stock(-1, 0), -1);
        Check.due("6 place 5", sea.stock(5, 0), -1);
        Check.due("6 sort -1", sea.stock(0, -1), -1);
        Check.due("6 sort 4", sea.stock(0, 4), -1);
    }

    private static void persons() {
        TwoSeas sea = new TwoSeas();
        Check.due("7 place -1", sea.person(-1, 0), -1);
        Check.due("7 place 5", sea.person(5, 10), -1);
        Check.due("7 rank -1", sea.person(0, -1), -2);
        Check.due("7 rank 10", sea.person(0, 10), -2);
        for (int i = 0; i < 20; i++) {
            Check.due("7 number", sea.person(i % 5, i % 10), i);
        }
        Check.due("7 full", sea.person(0, 0), -4);
        Check.due("7 bad ahead of full", sea.person(0, 10), -2);
        Check.due("7 none ahead of full", sea.person(5, 0), -1);
        Check.due("7 how many", sea.count(0), 20);
        Check.due("7 where", sea.goes(19, 0), 4);
    }

    private static void goings() {
        TwoSeas sea = new TwoSeas();
        sea.person(3, 4);
        Check.due("8 to the house", sea.goes(0, 0), 3);
        Check.due("8 to a factory", sea.goes(0, 4), 0);
        Check.due("8 person 1", sea.goes(1, 0), -1);
        Check.due("8 person -1", sea.goes(-1, 0), -1);
        Check.due("8 place 5", sea.goes(0, 5), -1);
        Check.due("8 place -1", sea.goes(0, -1), -1);
        Check.due("8 unchanged", sea.goes(0, 1), 4);
        Check.due("8 sits in the council where it is", sea.council(1, 0, 1, 1, 0), 0);
        Check.due("8 and in no other", sea.council(4, 0, 1, 1, 0), -2);
    }
}
