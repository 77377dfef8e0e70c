import java.util.Random;

/**
 * Promise 11 on many texts: orders that are good, cut off, changed by a byte, or stretched, against a
 * regular expression that tells whether some order begins so.
 */
public final class OrderReaderTest {
    private static final String BYTES = " ;<=>0123456789abdeiklnoprstuvwyX\u0000\u0080\u00ff";

    private static final Random RANDOM = new Random(11);
    private static TwoSeas sea = new TwoSeas();
    private static int good = 0;

    public static void main(String[] args) {
        for (int i = 0; i < 20000; i++) {
            look(changed(someOrder()));
        }
        for (int i = 0; i < 2000; i++) {
            look(noise());
        }
        Check.holds("some were good", good > 1000);
        Check.end();
    }

    private static void look(String text) {
        if (sea.count(1) == 150) {
            sea = new TwoSeas();
        }
        int fault = PlainSeas.faultOf(text);
        int due = fault < 0 ? sea.count(1) : -10 - fault;
        good += fault < 0 ? 1 : 0;
        Check.due("11 order " + text, Check.write(sea, 3, text), due);
        if (fault < 0) {
            Check.due("15 paragraphs of " + text, sea.paper(due, 5), text.split(";").length);
        }
    }

    private static String someOrder() {
        StringBuilder text = new StringBuilder(paragraph());
        int more = RANDOM.nextInt(8) - 1;
        for (int i = 0; i < more; i++) {
            String next = paragraph();
            if (text.length() + next.length() < 119) {
                text.append(';').append(next);
            }
        }
        return text.toString();
    }

    private static String paragraph() {
        String act = of("buy ", "advance ", "lade ", "keep ", "sail ", "draw ");
        StringBuilder text = new StringBuilder(act);
        if (act.matches("(buy|advance|lade) ")) {
            text.append(RANDOM.nextInt(4)).append(' ');
        }
        text.append(number());
        int tests = Math.max(0, RANDOM.nextInt(8) - 3);
        for (int i = 0; i < tests; i++) {
            text.append(i == 0 ? " if " : of(" and ", " or ")).append(of("", "", "not "));
            text.append(of("price0", "price3", "stock1", "stock2", "bullion", "ships", "day"));
            text.append(of("<", "=", ">")).append(number());
        }
        return text.toString();
    }

    private static String number() {
        int digits = 1 + RANDOM.nextInt(RANDOM.nextInt(20) == 0 ? 5 : 4);
        StringBuilder text = new StringBuilder();
        for (int i = 0; i < digits; i++) {
            text.append(RANDOM.nextInt(10));
        }
        return text.toString();
    }

    private static String of(String... some) {
        return some[RANDOM.nextInt(some.length)];
    }

    private static String changed(String order) {
        String text = order.substring(0, Math.min(order.length(), 120));
        int at = RANDOM.nextInt(text.length());
        char sign = BYTES.charAt(RANDOM.nextInt(BYTES.length()));
        switch (RANDOM.nextInt(5)) {
            case 0: return text.substring(0, at);
            case 1: return text.substring(0, at) + sign + text.substring(at + 1);
            case 2: return text.substring(0, at) + text.substring(at + 1);
            case 3: return text.length() < 120 ? text.substring(0, at) + sign + text.substring(at) : text;
            default: return text;
        }
    }

    private static String noise() {
        StringBuilder text = new StringBuilder();
        int length = RANDOM.nextInt(121);
        for (int i = 0; i < length; i++) {
            text.append((char) RANDOM.nextInt(256));
        }
        return text.toString();
    }
}
