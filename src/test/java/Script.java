import java.lang.reflect.Method;
import java.lang.reflect.Modifier;
import java.util.ArrayList;
import java.util.Arrays;
import java.util.List;
import java.util.TreeMap;
import java.util.regex.Matcher;
import java.util.regex.Pattern;

/**
 * Runs of calls on a new object, a row each, as issues tell them: "bullion(0, 5) -> 5". Without an arrow any answer
 * will do; "100 times bullion(0, 1)" makes a hundred calls, of which the last one's answer is looked at; "type keep 1"
 * feeds a text to THE TAPE.
 *
 * Whatever is refused on the way must have changed nothing: a twin that was never asked for it answers all that
 * Witness asks as the other one does. No run goes beyond the 512 calls that the document promises.
 */
final class Script {
    static final int MOST_CALLS = 512;

    private static final Pattern ROW = Pattern.compile("(?:(\\d+) times )?(\\w+)\\(([-\\d, ]*)\\)(?: -> (-?\\d+))?");
    private static final TreeMap<String, Method> METHODS = new TreeMap<>();

    private Script() {
    }

    static {
        for (Method method : TwoSeas.class.getDeclaredMethods()) {
            if (Modifier.isPublic(method.getModifiers())) {
                METHODS.put(method.getName(), method);
            }
        }
    }

    /** A call, and what is due (null: any answer). */
    record Call(String name, int[] args, Integer due) {
        @Override public String toString() {
            return name + Arrays.toString(args).replace('[', '(').replace(']', ')');
        }
    }

    /** Plays the rows on a new object: the sentence is the one of the document that they look at. */
    static void edge(String sentence, String... rows) {
        List<Call> calls = read(String.join("\n", rows));
        Check.holds(sentence + ": at most 512 calls, not " + calls.size(), calls.size() <= MOST_CALLS);
        TwoSeas sea = new TwoSeas();
        for (int i = 0; i < calls.size(); i++) {
            Call call = calls.get(i);
            int answer = make(sea, call.name, call.args);
            if (call.due != null) {
                Check.due(sentence + ": row " + i + ", " + call, answer, call.due);
            }
            if (isRefused(call, answer)) {
                String change = changeBy(calls.subList(0, i), call);
                Check.holds(sentence + ": row " + i + ", refused " + call + " changed nothing, but " + change, change == null);
            }
        }
    }

    /** The rows that feed a text to THE TAPE, whatever bytes it has. */
    static String typed(String text) {
        StringBuilder rows = new StringBuilder();
        for (int i = 0; i < text.length(); i += 4) {
            int bytes = 0;
            int n = Math.min(4, text.length() - i);
            for (int k = 0; k < n; k++) {
                bytes = bytes << 8 | text.charAt(i + k);
            }
            rows.append("feed(").append(bytes).append(", ").append(n).append(")\n");
        }
        return rows.toString();
    }

    /** The rows that type an order for a factory, with what order() is to answer. */
    static String ordered(String text, int factory, int due) {
        return typed(text) + "order(" + factory + ") -> " + due + "\n";
    }

    /**
     * Rows after which factory 1 is 20 days off both ways and has coins, and ship 0 of 60 tons came there on day 20
     * with the order (paper 0).
     */
    static String atFactory(int coins, String order) {
        return atFactory(coins, order, 0);
    }

    /** The same behind other papers: the order is paper number so many. */
    static String atFactory(int coins, String order, int paper) {
        return "factory(1, 0, 20)\nfactory(1, 1, 20)\nbullion(1, " + coins + ")\nship(0, 60)\ntake()\n"
                + ordered(order, 1, paper) + "copy(" + paper + ", 0)\nsail(0, 1)\ndays(20)\n";
    }

    /** The names of all calls. */
    static List<String> names() {
        return new ArrayList<>(METHODS.keySet());
    }

    static int make(TwoSeas sea, String name, int... args) {
        Method method = METHODS.get(name);
        if (method == null || method.getParameterCount() != args.length) {
            throw new IllegalArgumentException("no such call: " + name + Arrays.toString(args));
        }
        try {
            return (Integer) method.invoke(sea, Arrays.stream(args).boxed().toArray());
        } catch (ReflectiveOperationException thrown) {
            Check.holds(name + Arrays.toString(args) + " without throwing " + thrown.getCause(), false);
            return Integer.MIN_VALUE;
        }
    }

    private static List<Call> read(String rows) {
        List<Call> calls = new ArrayList<>();
        for (String line : rows.split("\n")) {
            String row = line.strip();
            if (row.isEmpty() || row.startsWith("#")) {
                continue;
            }
            if (row.startsWith("type ")) {
                calls.addAll(read(typed(row.substring(5))));
                continue;
            }
            Matcher found = ROW.matcher(row);
            if (!found.matches()) {
                throw new IllegalArgumentException("no such row: " + row);
            }
            addTimes(calls, found);
        }
        return calls;
    }

    private static void addTimes(List<Call> calls, Matcher row) {
        int times = row.group(1) == null ? 1 : Integer.parseInt(row.group(1));
        int[] args = row.group(3).isBlank() ? new int[0]
                : Arrays.stream(row.group(3).split(",")).map(String::strip).mapToInt(Integer::parseInt).toArray();
        Integer due = row.group(4) == null ? null : Integer.valueOf(row.group(4));
        for (int i = 1; i <= times; i++) {
            calls.add(new Call(row.group(2), args, i == times ? due : null));
        }
    }

    /** A FAULT empties THE TAPE and an act that is none such empties THE TRACE: these are no refusals. */
    private static boolean isRefused(Call call, int answer) {
        boolean fault = call.name.equals("order") && answer <= -10;
        return answer < 0 && !fault && !call.name.equals("act");
    }

    /** The first question to which a twin without the refused call answers otherwise; null: none. */
    private static String changeBy(List<Call> before, Call refused) {
        for (int group = 0; group < Witness.GROUPS; group++) {
            Witness without = new Witness(played(before), before.size());
            TwoSeas asked = played(before);
            make(asked, refused.name, refused.args);
            Witness with = new Witness(asked, before.size() + 1);
            without.ask(group);
            with.ask(group);
            String change = without.differsFrom(with);
            if (change != null) {
                return change;
            }
        }
        return null;
    }

    private static TwoSeas played(List<Call> calls) {
        TwoSeas sea = new TwoSeas();
        for (Call call : calls) {
            make(sea, call.name, call.args);
        }
        return sea;
    }
}
