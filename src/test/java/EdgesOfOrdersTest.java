/** The edges of promise 11, the reading of an ORDER from THE TAPE: where the FAULT is, and where there is none. */
public final class EdgesOfOrdersTest {
    private static final String[] SORTED = {"buy ", "advance ", "lade "};
    private static final String[] PLAIN = {"keep ", "sail ", "draw "};

    public static void main(String[] args) {
        emptyTape();
        acts();
        blanks();
        sorts();
        numbers();
        paragraphs();
        howManyTests();
        wordsOfTests();
        fields();
        signs();
        endsTooEarly();
        anyOtherByte();
        fullTape();
        Check.end();
    }

    private static void good(String text) {
        int paragraphs = text.length() - text.replace(";", "").length() + 1;
        Script.edge("11: " + text, Script.ordered(text, 1, 0), "paper(0, 5) -> " + paragraphs + "\ncount(6) -> 0");
    }

    private static void fault(String text, int place) {
        Script.edge("11: " + text, Script.ordered(text, 1, -10 - place), "count(1) -> 0\ncount(6) -> 0");
    }

    private static void emptyTape() {
        fault("", 0);
        fault(" ", 0);
        fault(";", 0);
        fault("\u0000", 0);
    }

    private static void acts() {
        for (String act : SORTED) {
            good(act + "0 1");
        }
        for (String act : PLAIN) {
            good(act + "1");
        }
        fault("x", 0);
        fault("buz 0 1", 2);
        fault("bu 0 1", 2);
        fault("bbuy 0 1", 1);
        fault("advanse 0 1", 5);
        fault("adv 0 1", 3);
        fault("load 0 1", 1);
        fault("keeps 1", 4);
        fault("sell 1", 1);
        fault("dray 1", 3);
        fault("day=1", 1);
        fault("Buy 0 1", 0);
        fault("bUy 0 1", 1);
        fault("if day=1", 0);
        fault("price0<1", 0);
        fault("advance", 7);
        fault("draw", 4);
    }

    /** One blank between, none ahead and none behind. */
    private static void blanks() {
        fault(" buy 0 1", 0);
        fault("buy0 1", 3);
        fault("buy  0 1", 4);
        fault("buy 01", 5);
        fault("buy 0  1", 6);
        fault("buy 0 1 ", 8);
        fault("keep1", 4);
        fault("keep  1", 5);
        fault("keep\t1", 4);
        fault("keep 1 ", 7);
        fault("keep 1 ;keep 1", 7);
        fault("keep 1; keep 1", 7);
        fault("keep 1  if day=1", 7);
        fault("keep 1if day=1", 6);
        fault("keep 1 if  day=1", 10);
        fault("keep 1 ifday=1", 9);
        fault("keep 1 if day =1", 13);
        fault("keep 1 if day= 1", 14);
        fault("keep 1 if day=1 ", 16);
        fault("keep 1 if day=1  and day=1", 16);
        fault("keep 1 if day=1 and  day=1", 20);
        fault("keep 1 if day=1and day=1", 15);
        fault("keep 1 if day=1 andday=1", 19);
        fault("keep 1 if day=1 orday=1", 18);
        fault("keep 1 if price 0=1", 15);
        fault("keep 1 if stock 0=1", 15);
        fault("keep 1 if price0 =1", 16);
    }

    /** S: a digit 0 .. 3. */
    private static void sorts() {
        for (String act : SORTED) {
            int at = act.length();
            for (int sort = 0; sort <= 3; sort++) {
                good(act + sort + " 1");
            }
            fault(act + "4 1", at);
            fault(act + "9 1", at);
            fault(act + "/ 1", at);
            fault(act + "-1 1", at);
            fault(act + "00 1", at + 1);
            fault(act + "a 1", at);
        }
        for (String act : PLAIN) {
            fault(act + "0 1", act.length() + 2);
        }
        for (String field : new String[] {"price", "stock"}) {
            for (int sort = 0; sort <= 3; sort++) {
                good("keep 1 if " + field + sort + "=1");
            }
            fault("keep 1 if " + field + "4=1", 15);
            fault("keep 1 if " + field + "/=1", 15);
            fault("keep 1 if " + field + "=1", 15);
            fault("keep 1 if " + field + "00=1", 16);
        }
        fault("keep 1 if bullion0=1", 17);
        fault("keep 1 if ships0=1", 15);
        fault("keep 1 if day0=1", 13);
    }

    /** N, NUMBER: 1 to 4 digits. */
    private static void numbers() {
        for (String act : SORTED) {
            numbers(act + "2 ");
        }
        for (String act : PLAIN) {
            numbers(act);
        }
        for (String sign : new String[] {"<", "=", ">"}) {
            numbers("keep 1 if day" + sign);
        }
        numbers("keep 1 if price0=1 and bullion<");
        numbers("sail 1 if not stock3>1 or ships=");
        numbers("keep 1;draw ");
    }

    private static void numbers(String ahead) {
        int at = ahead.length();
        fault(ahead, at);
        good(ahead + "0");
        good(ahead + "9");
        good(ahead + "00");
        good(ahead + "099");
        good(ahead + "0000");
        good(ahead + "9999");
        fault(ahead + "00000", at + 4);
        fault(ahead + "12345", at + 4);
        fault(ahead + "/", at);
        fault(ahead + ":", at);
        fault(ahead + "1/", at + 1);
        fault(ahead + "1:", at + 1);
        fault(ahead + "-1", at);
        fault(ahead + "+1", at);
        fault(ahead + "12x", at + 2);
        fault(ahead + "1234:", at + 4);
        fault(ahead + ";", at);
    }

    /** PARAGRAPH, or up to 6 with ; between. */
    private static void paragraphs() {
        good("keep 1");
        good("keep 1;keep 1");
        good("keep 1;keep 1;keep 1;keep 1;keep 1");
        good("keep 1;keep 1;keep 1;keep 1;keep 1;keep 1");
        fault("keep 1;keep 1;keep 1;keep 1;keep 1;keep 1;", 41);
        fault("keep 1;keep 1;keep 1;keep 1;keep 1;keep 1;keep 1", 41);
        fault("keep 1;", 7);
        fault("keep 1;keep 1;keep 1;keep 1;keep 1;", 35);
        fault(";keep 1", 0);
        fault("keep 1;;keep 1", 7);
        fault("keep 1,keep 1", 6);
        fault("keep 1:keep 1", 6);
        fault("keep 1keep 1", 6);
        fault("keep 1 keep 1", 7);
        good("buy 0 1;advance 1 2;lade 2 3;keep 4;sail 5;draw 6");
        good("keep 1 if day=1;keep 2;keep 3 if day=3");
    }

    /** 4 TESTS at most, in each PARAGRAPH. */
    private static void howManyTests() {
        String[] between = {" and ", " or "};
        for (String word : between) {
            String four = "keep 1 if day=1" + (word + "day=1").repeat(3);
            good("keep 1 if day=1");
            good("keep 1 if day=1" + word + "day=1");
            good(four);
            fault(four + word + "day=1", four.length());
            fault(four + " ", four.length());
            good(four + ";keep 1");
            good(four + ";" + four);
            fault(four + ";" + four + " ", 2 * four.length() + 1);
        }
        good("keep 1 if day=1 and day=1 or day=1 and day=1");
        fault("keep 1 if day=1 and day=1 or day=1 and day=1 or day=1", 44);
        good("keep 1 if not day=1 and not day=1 or not day=1 and not day=1");
    }

    private static void wordsOfTests() {
        fault("keep 1 i", 8);
        fault("keep 1 of", 7);
        fault("keep 1 it day=1", 8);
        fault("keep 1 if", 9);
        fault("keep 1 if ", 10);
        fault("keep 1 if and day=1", 10);
        fault("keep 1 if not", 13);
        fault("keep 1 if not ", 14);
        good("keep 1 if not day=1");
        fault("keep 1 if not not day=1", 14);
        fault("keep 1 if nor day=1", 12);
        fault("keep 1 if notday=1", 13);
        fault("keep 1 if not  day=1", 14);
        fault("keep 1 if day=1 not day=1", 16);
        fault("keep 1 if day=1 if day=1", 16);
        fault("keep 1 if day=1 xor day=1", 16);
        fault("keep 1 if day=1 ans day=1", 18);
        fault("keep 1 if day=1 ot day=1", 17);
        good("keep 1 if day=1 and not day=1");
        good("keep 1 if day=1 or not day=1");
        fault("keep 1 if day=1 and or day=1", 20);
        fault("keep 1 if (day=1)", 10);
        fault("keep 1 and day=1", 7);
    }

    private static void fields() {
        for (String field : new String[] {"price0", "stock0", "bullion", "ships", "day"}) {
            good("keep 1 if " + field + "=1");
            good("keep 1 if not " + field + "=1");
            good("keep 1 if day=1 and " + field + "=1");
        }
        fault("keep 1 if x", 10);
        fault("keep 1 if prize0=1", 13);
        fault("keep 1 if sock0=1", 11);
        fault("keep 1 if stack0=1", 12);
        fault("keep 1 if shops=1", 12);
        fault("keep 1 if ship=1", 14);
        fault("keep 1 if buy=1", 12);
        fault("keep 1 if bull=1", 14);
        fault("keep 1 if days=1", 13);
        fault("keep 1 if draw=1", 11);
        fault("keep 1 if keep=1", 10);
        fault("keep 1 if 1=1", 10);
        fault("keep 1 if Day=1", 10);
    }

    private static void signs() {
        for (String sign : new String[] {"<", "=", ">"}) {
            good("keep 1 if day" + sign + "1");
            good("keep 1 if price3" + sign + "1");
        }
        // the bytes beside < = >
        fault("keep 1 if day;1", 13);
        fault("keep 1 if day?1", 13);
        fault("keep 1 if day!=1", 13);
        fault("keep 1 if day<=1", 14);
        fault("keep 1 if day==1", 14);
        fault("keep 1 if day><1", 14);
        fault("keep 1 if day1", 13);
        fault("keep 1 if day", 13);
    }

    private static final String LONG = "advance 3 1234 if not price3<1234 and stock0=0 or bullion>9 and ships=1;keep 0";

    /** The end of THE TAPE, if it ends too early: where no ORDER ends. */
    private static void endsTooEarly() {
        for (int end = 0; end <= LONG.length(); end++) {
            String text = LONG.substring(0, end);
            if (text.matches(".*(3 \\d+|<\\d+|=\\d+|>\\d+|keep 0)")) {
                good(text);
            } else {
                fault(text, end);
            }
        }
    }

    /** The first byte with which none begins so, whatever comes behind it. */
    private static void anyOtherByte() {
        char[] strange = {0, 1, 127, 128, 233, 255};
        for (int at = 0; at < LONG.length(); at++) {
            for (char other : strange) {
                fault(LONG.substring(0, at) + other + LONG.substring(at + 1), at);
            }
        }
        // Bytes that are a sign of the ORDER but for their highest bit.
        for (int at = 0; at < 20; at++) {
            fault(LONG.substring(0, at) + (char) (LONG.charAt(at) + 128) + LONG.substring(at + 1), at);
        }
        fault(LONG + '\u0000', LONG.length());
        fault(LONG + "0000", LONG.length() + 3);
    }

    /** THE TAPE (bytes, 120 at most). */
    private static void fullTape() {
        String whole = "keep 1234 if price0<1234 and price1<1234 or stock2>1234 and bullion>1234;"
                + "sail 1 if day=1 or day=22 or ships=345;buy 0 1";
        String full = whole + "0".repeat(119 - whole.length());
        // The last number may have four digits: 119 bytes end within it.
        Check.due("11: its length", full.length(), 119);
        good(full);
        good(full + "4");
        fault(full + ";", 120);
        fault(full + "x", 119);
        fault(full + " ", 120);
    }
}
