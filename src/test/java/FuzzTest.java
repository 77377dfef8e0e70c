import java.lang.reflect.Method;
import java.lang.reflect.Modifier;
import java.util.ArrayList;
import java.util.Arrays;
import java.util.List;
import java.util.Random;
import java.util.TreeMap;

/**
 * Long runs of calls, the same on the class and on PlainSeas: every answer must be the same, and so must all that
 * can be asked now and then. Some runs take any numbers, others mostly such as there are. No call may throw.
 */
public final class FuzzTest {
    private static final TreeMap<String, Method> METHODS = new TreeMap<>();
    private static final int RUNS = 150, CALLS = 1200;

    private final Random random;
    private final TwoSeas sea = new TwoSeas();
    private final PlainSeas plain = new PlainSeas();
    private final List<String> calls = new ArrayList<>();
    private boolean same = true;
    /** Its coins come near the bound of a place, and ships carry beyond it. */
    private boolean rich;
    private int mostAboard;
    private int placesBeyond;
    private int loadedWhereBeyond;
    private final int[] placeOf = new int[20];

    private FuzzTest(int seed) {
        random = new Random(seed);
    }

    public static void main(String[] args) {
        for (Method method : TwoSeas.class.getDeclaredMethods()) {
            if (Modifier.isPublic(method.getModifiers())) {
                METHODS.put(method.getName(), method);
            }
        }
        int runs = args.length > 0 ? Integer.parseInt(args[0]) : RUNS;
        TreeMap<String, Integer> reached = new TreeMap<>();
        for (int seed = 0; seed < runs; seed++) {
            FuzzTest run = new FuzzTest(seed);
            run.rich = seed % 10 == 5;
            run.play(seed % 10 == 0);
            Check.holds("run " + seed + ": " + run.lastCalls(), run.same);
            run.count(reached);
        }
        for (String what : new String[] {"entries of act 0", "entries of act 1", "entries of act 2", "entries of act 3",
            "entries of act 4", "entries of act 5", "bills paid", "bills refused", "ships gone", "sales", "dividends",
            "beyond", "joined 0", "joined 3", "heard", "plans", "more aboard than a place may have",
            "places beyond their bound", "loads where a place is beyond"}) {
            Check.holds("the runs reach " + what, reached.getOrDefault(what, 0) > 0);
        }
        if (args.length > 0) {
            System.out.println(reached);
        }
        Check.end();
    }

    private String lastCalls() {
        return same ? "" : String.join("; ", calls);
    }

    private void play(boolean wild) {
        if (!wild) {
            settle();
        }
        while (calls.size() < CALLS && same) {
            if (wild) {
                wildCall();
            } else {
                livelyCall();
            }
            if (calls.size() % 32 == 0) {
                lookAtAll();
                lookAtCoins();
            }
        }
        lookAtAll();
    }

    private void lookAtCoins() {
        for (int i = 0; i < count(2); i++) {
            mostAboard = Math.max(mostAboard, call("shipOf", i, 4));
        }
        for (int p = 0; p < 5; p++) {
            placesBeyond += isBeyond(p) ? 1 : 0;
        }
    }

    /** Calls both and compares. */
    private int both(String name, int... args) {
        int due = plain.call(name, args);
        int got = call(name, args);
        calls.add(name + Arrays.toString(args) + " = " + got);
        if (got >= 0 && name.equals("person")) {
            placeOf[got] = args[0];
        }
        if (got >= 0 && name.equals("goes")) {
            placeOf[args[0]] = args[1];
        }
        if (got != due && same) {
            same = false;
            calls.add("due is " + due);
        }
        return got;
    }

    private int call(String name, int... args) {
        Object[] boxed = Arrays.stream(args).boxed().toArray();
        try {
            return (Integer) METHODS.get(name).invoke(sea, boxed);
        } catch (ReflectiveOperationException thrown) {
            same = false;
            calls.add(name + Arrays.toString(args) + " threw " + thrown.getCause());
            return 0;
        }
    }

    private void wildCall() {
        List<String> names = new ArrayList<>(METHODS.keySet());
        String name = names.get(random.nextInt(names.size()));
        int[] args = new int[METHODS.get(name).getParameterCount()];
        for (int i = 0; i < args.length; i++) {
            args[i] = wildNumber();
        }
        both(name, args);
    }

    private int wildNumber() {
        int[] edges = {Integer.MIN_VALUE, Integer.MAX_VALUE, Integer.MIN_VALUE + 1, -1, 0, 1, 2, 3, 4, 5, 20, 64, 100};
        switch (random.nextInt(8)) {
            case 0: return edges[random.nextInt(edges.length)];
            case 1: return random.nextInt();
            case 2: return random.nextInt(1000) - 100;
            default: return random.nextInt(8) - 1;
        }
    }

    /** A number from 0 to below n, rarely one beside that. */
    private int up(int n) {
        int beside = random.nextInt(40);
        return beside == 0 ? -1 : beside == 1 ? n : n <= 0 ? 0 : random.nextInt(n);
    }

    private int from(int least, int most) {
        return least + up(most - least + 1);
    }

    private int place() {
        return random.nextInt(3) == 0 ? up(5) : random.nextInt(3);
    }

    private int works() {
        return random.nextInt(4) == 0 ? from(1, 4) : 1 + random.nextInt(2);
    }

    private int count(int what) {
        return call("count", what);
    }

    private void settle() {
        for (int p = 1; p <= 4; p++) {
            both("factory", p, 0, 20 + random.nextInt(20));
            both("factory", p, 1, 20 + random.nextInt(20));
            both("bullion", p, random.nextInt(3000));
        }
        for (int i = 0; i < 6; i++) {
            both("ship", random.nextInt(4), 1 + random.nextInt(30));
            both("person", place(), up(10));
        }
        both("bullion", 0, random.nextInt(5000));
        for (int i = 0; rich && i < 240; i++) {
            both("bullion", i % 3 == 0 ? 1 : 0, 1000000);
            if (i % 24 == 23) {
                both("load", random.nextInt(2), from(0, 1000000 * i));
            }
        }
        for (int p = 1; p <= 4; p++) {
            int sort = random.nextInt(4);
            String first = "buy " + sort + " " + (1 + random.nextInt(5)) + ";lade " + sort + " 9;sail " + random.nextInt(4);
            typeText(first + of("", ";draw 300", ";draw 90", ";advance 2 11 if stock2<9;lade 2 5"));
            int order = both("order", p);
            int ship = both("take");
            both("copy", order, ship);
            both("sail", ship, p);
        }
    }

    private void typeText(CharSequence text) {
        for (int i = 0; i < text.length(); i += 4) {
            int bytes = 0;
            int n = Math.min(4, text.length() - i);
            for (int k = 0; k < n; k++) {
                bytes = bytes << 8 | text.charAt(i + k);
            }
            both("feed", bytes, n);
        }
    }

    private void livelyCall() {
        int paper = random.nextInt(3) == 0 ? up(count(1)) : Math.max(0, count(1) - 1 - random.nextInt(6));
        int ship = up(count(2));
        int sort = up(4);
        switch (random.nextInt(37)) {
            case 0: both("factory", works(), up(3), from(0, 60)); break;
            case 1: both("base", works(), sort, from(1, 30)); break;
            case 2: both("bullion", place(), from(-100, 900)); break;
            case 3: both("person", place(), up(10)); break;
            case 4: both("goes", up(count(0)), place()); break;
            case 5: case 6: if (count(1) < 60 || random.nextInt(5) == 0) typeOrder(); break;
            case 7: case 33: case 34: case 35: atFactories(); break;
            case 8: both("letter", place(), random.nextBoolean() ? 0 : place()); break;
            case 9: case 10: case 11: case 12: both("copy", paper, ship); break;
            case 13: both("ship", up(4), from(1, 60)); break;
            case 14: case 15: both("take"); break;
            case 16: both("load", ship, rich ? from(-60000000, 90000000) : from(-200, 400)); loadWhereBeyond(); break;
            case 17: both("stow", up(count(0)), ship, up(6)); break;
            case 18: case 19: case 20: both("sail", ship, works()); break;
            case 21: if (random.nextInt(6) == 0) both("lose", up(count(3))); break;
            case 22: both("recount", up(count(3)), sort, up(5)); break;
            case 23: case 24: case 25: case 26: both("days", random.nextInt(6) == 0 ? from(1, 60) : from(1, 12)); break;
            case 27: bills(); break;
            case 28: council(); break;
            case 29: both("wants", up(6), sort, up(20), up(random.nextBoolean() ? 60 : 1000)); break;
            case 30: both("sale", sort, from(1, 6)); break;
            case 31: both("shares", up(8), up(8), from(1, 60)); both("divide", up(Math.max(1, call("gain")))); break;
            case 32: both("year", up(4), sort, up(60)); both("plan", works(), up(201), up(9000), up(5)); break;
            default: sheetsAndActs(paper); break;
        }
    }

    /** A little either way, at ships whose place is beyond its bound by what came. */
    private void loadWhereBeyond() {
        for (int ship = 0; rich && ship < count(2); ship++) {
            int p = call("shipOf", ship, 0);
            if (p >= 0 && isBeyond(p)) {
                loadedWhereBeyond += both("load", ship, from(0, 3)) >= 0 ? 1 : 0;
                both("load", ship, from(-3, 0));
            }
        }
    }

    /** Only a place that is beyond its bound refuses even nothing. */
    private boolean isBeyond(int p) {
        return call("bullion", p, 0) == -2;
    }

    /** What makes ships that are away come home with something aboard. */
    private void atFactories() {
        for (int ship = 0; ship < count(2); ship++) {
            int p = call("shipOf", ship, 0);
            if (p == 0 && random.nextBoolean()) {
                both("take");
                both("sail", ship, works());
            }
            for (int i = 0; p > 0 && i < count(0); i++) {
                if (random.nextInt(3) == 0) {
                    both("stow", i, ship, up(4));
                }
            }
            for (int i = 0; p > 0 && i < count(1); i++) {
                boolean bill = call("bill", i, 0) >= 0;
                if ((bill || random.nextInt(30) == 0) && call("known", i, p) >= 0 && call("paper", i, 4) < 2) {
                    both("copy", i, ship);
                }
            }
            if (p > 0 && random.nextInt(8) == 0) {
                both("copy", both("letter", p, 0), ship);
            }
        }
        both("days", from(1, 12));
    }

    private void bills() {
        for (int i = 0; i < count(1); i++) {
            if (call("bill", i, 0) >= 0 && random.nextBoolean()) {
                both(random.nextInt(4) == 0 ? "refuse" : "accept", i);
            }
        }
    }

    /** Yes and no of those who are there, rarely of others, rarely both ways. */
    private void council() {
        int p = works();
        int[] votes = new int[3];
        for (int i = 0; i < count(0); i++) {
            if (placeOf[i] == p || random.nextInt(200) == 0) {
                votes[random.nextInt(3)] |= 1 << i;
                votes[2] |= random.nextInt(60) == 0 ? 1 << i : 0;
            }
        }
        both("council", p, up(4), from(1, 9), votes[0] | votes[2], votes[1]);
    }

    private void typeOrder() {
        StringBuilder text = new StringBuilder(paragraph());
        int more = random.nextInt(5);
        for (int i = 0; i < more; i++) {
            String next = paragraph();
            if (text.length() + next.length() < 119) {
                text.append(';').append(next);
            }
        }
        if (random.nextInt(20) == 0) {
            text.setCharAt(random.nextInt(text.length()), (char) (32 + random.nextInt(90)));
        }
        typeText(text);
        int order = both("order", works());
        if (order >= 0) {
            both("copy", order, up(count(2)));
            both("copy", order, up(count(2)));
        }
    }

    private String paragraph() {
        int sort = random.nextInt(4);
        String act = of("buy " + sort + " ", "buy " + sort + " ", "advance " + sort + " ", "lade " + sort + " ",
                "lade " + sort + " ", "keep ", "sail ", "sail ", "draw ");
        int most = act.equals("draw ") || act.equals("keep ") ? 500 : act.equals("sail ") ? 6 : 25;
        StringBuilder text = new StringBuilder(act).append(random.nextInt(most));
        int tests = Math.max(0, random.nextInt(8) - 4);
        for (int i = 0; i < tests; i++) {
            text.append(i == 0 ? " if " : of(" and ", " or ")).append(of("", "", "not "));
            text.append(of("price" + sort + of("<", "=", ">") + (15 + random.nextInt(10)),
                    "stock" + sort + of("<", "=", ">") + random.nextInt(10),
                    "bullion" + of("<", "=", ">") + random.nextInt(900), "ships" + of("<", "=", ">") + random.nextInt(3),
                    "day" + of("<", "=", ">") + random.nextInt(360)));
        }
        return text.toString();
    }

    private String of(String... some) {
        return some[random.nextInt(some.length)];
    }

    private void sheetsAndActs(int paper) {
        switch (random.nextInt(5)) {
            case 0: both("sheet", up(3), from(-1, 2), up(12)); break;
            case 1: both("cell", up(3), up(8), random.nextInt()); break;
            case 2: both("carry", up(3), up(5), up(3), up(5), up(5)); break;
            case 3: both("mail", up(3), up(3), up(5), up(5)); break;
            default: both("act", paper, up(3), random.nextInt());
        }
        if (random.nextInt(12) == 0) {
            both("order", works());
        }
    }

    /** Asks for all that can be asked without a change, one beyond the ends too. */
    private void lookAtAll() {
        grid("count", 11);
        grid("price", 5, 4);
        grid("stock", 5, 4);
        grid("open", 5, 4);
        grid("force", 5);
        grid("forced", 5, 12);
        grid("holds", 5, 12);
        grid("known", count(1), 5);
        grid("paper", count(1), 6);
        grid("taken", count(1), 7);
        grid("bill", count(1), 3);
        grid("shipOf", count(2), 11);
        grid("voyage", count(3), 13);
        grid("entry", Math.min(count(5), 501), 8);
        grid("bought", 6, 2);
        grid("holder", 8, 2);
        grid("trace", 20);
        grid("gain");
        for (int p = 0; p < 5; p++) {
            ask("bullion", p, 0);
            for (int day = 0; day <= count(4) + 40; day += 7) {
                ask("heard", p, p % 4, day);
            }
        }
    }

    private void grid(String name, int... ends) {
        if (ends.length == 0) {
            ask(name);
            return;
        }
        for (int i = -1; i <= ends[0]; i++) {
            if (ends.length == 1) {
                ask(name, i);
                continue;
            }
            for (int k = -1; k <= ends[1]; k++) {
                ask(name, i, k);
            }
        }
    }

    private void ask(String name, int... args) {
        if (same) {
            int due = plain.call(name, args);
            int got = call(name, args);
            if (due != got) {
                same = false;
                calls.add(name + Arrays.toString(args) + " = " + got + ", due is " + due);
            }
        }
    }

    private void count(TreeMap<String, Integer> reached) {
        for (int i = 0; i < Math.min(500, count(5)); i++) {
            reached.merge("entries of act " + call("entry", i, 2), 1, Integer::sum);
        }
        for (int i = 0; i < count(1); i++) {
            int state = call("bill", i, 0);
            reached.merge(state == 2 ? "bills paid" : state == 3 ? "bills refused" : "papers", 1, Integer::sum);
        }
        for (int i = 0; i < count(3); i++) {
            reached.merge("joined " + call("voyage", i, 11), 1, Integer::sum);
            reached.merge("beyond", call("voyage", i, 12) > 0 ? 1 : 0, Integer::sum);
        }
        for (int i = 0; i < count(2); i++) {
            reached.merge("ships gone", call("shipOf", i, 0) == -2 ? 1 : 0, Integer::sum);
        }
        for (int p = 1; p <= 4; p++) {
            reached.merge("heard", call("heard", p, 0, 9999) > 0 ? 1 : 0, Integer::sum);
            reached.merge("plans", call("plan", p, 200, 9000, 0) > 0 ? 1 : 0, Integer::sum);
        }
        reached.merge("more aboard than a place may have", mostAboard > 100000000 ? 1 : 0, Integer::sum);
        reached.merge("places beyond their bound", placesBeyond, Integer::sum);
        reached.merge("loads where a place is beyond", loadedWhereBeyond, Integer::sum);
        reached.merge("sales", count(8), Integer::sum);
        reached.merge("dividends", count(9), Integer::sum);
        reached.merge("days", count(4), Integer::sum);
        reached.merge("orders in force at 1", call("force", 1), Integer::sum);
    }
}
