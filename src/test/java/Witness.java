import java.util.ArrayList;
import java.util.List;

/**
 * Asks an object for all that shows what it holds, in groups, each for an object of its own: questions change nothing,
 * but most of what is held shows only in what later calls do.
 */
final class Witness {
    static final int GROUPS = 9;

    private final TwoSeas sea;
    private int calls;
    private final List<String> asked = new ArrayList<>();
    private final List<Integer> answers = new ArrayList<>();

    /** An object that has had so many calls. */
    Witness(TwoSeas sea, int calls) {
        this.sea = sea;
        this.calls = calls;
    }

    void ask(int group) {
        switch (group) {
            case 0: places(); break;
            case 1: papers(); break;
            case 2: ships(); break;
            case 3: voyagesAndEntries(); break;
            case 4: whatWasTold(); break;
            case 5: theTape(); break;
            case 6: theSheets(); break;
            case 7: salesAndCouncils(); break;
            default: daysToCome(); break;
        }
    }

    /** Where the answers of two are not the same, told by the first such question; null: nowhere. */
    String differsFrom(Witness other) {
        int ends = Math.min(answers.size(), other.answers.size());
        for (int i = 0; i < ends; i++) {
            if (!answers.get(i).equals(other.answers.get(i))) {
                return asked.get(i) + " answers " + other.answers.get(i) + ", not " + answers.get(i);
            }
        }
        return null;
    }

    private int put(String name, int... args) {
        if (calls >= Script.MOST_CALLS) {
            return -1;
        }
        calls++;
        int answer = Script.make(sea, name, args);
        asked.add(new Script.Call(name, args, null).toString());
        answers.add(answer);
        return answer;
    }

    private void places() {
        for (int what = 0; what <= 10; what++) {
            put("count", what);
        }
        put("gain");
        for (int p = 0; p < 5; p++) {
            put("bullion", p, 0);
            put("force", p);
            for (int sort = 0; sort < 4; sort++) {
                put("stock", p, sort);
                put("price", p, sort);
                put("open", p, sort);
            }
        }
        for (int i = 0; i < 8; i++) {
            put("holder", i, 0);
            put("holder", i, 1);
            put("bought", i, 0);
            put("bought", i, 1);
            put("trace", i);
        }
    }

    private void papers() {
        int papers = put("count", 1);
        for (int i = 0; i < papers; i++) {
            if (i < 4 || i >= papers - 6) {
                for (int what = 0; what < 6; what++) {
                    put("paper", i, what);
                }
                for (int what = 0; what < 3; what++) {
                    put("bill", i, what);
                }
                for (int p = 0; p < 5; p++) {
                    put("known", i, p);
                }
            }
        }
    }

    private void ships() {
        for (int i = 0; i < 8; i++) {
            for (int what = 0; what <= 10; what++) {
                put("shipOf", i, what);
            }
        }
        for (int p = 1; p < 5; p++) {
            for (int i = 0; i < 10; i++) {
                put("forced", p, i);
                put("holds", p, i);
            }
        }
    }

    private void voyagesAndEntries() {
        int voyages = put("count", 3);
        int entries = put("count", 5);
        int day = put("count", 4);
        for (int i = 0; i < voyages; i++) {
            for (int what = 0; (i < 2 || i >= voyages - 3) && what <= 12; what++) {
                put("voyage", i, what);
            }
        }
        for (int i = 0; i < entries; i++) {
            for (int what = 0; (i < 3 || i >= entries - 4) && what < 8; what++) {
                put("entry", i, what);
            }
        }
        for (int p = 1; p < 5; p++) {
            for (int sort = 0; sort < 4; sort++) {
                put("heard", p, sort, day);
            }
        }
    }

    /** Telling it otherwise answers what it was. */
    private void whatWasTold() {
        for (int p = 1; p < 5; p++) {
            for (int what = 0; what < 3; what++) {
                put("factory", p, what, 33);
            }
            for (int sort = 0; sort < 4; sort++) {
                put("plan", p, 90, 5000, sort);
                put("base", p, sort, 7);
            }
        }
        for (int sort = 0; sort < 4; sort++) {
            for (int i = 0; i < 6; i++) {
                put("wants", i, sort, 1, 1);
                put("year", i, sort, 7);
            }
            for (int v = Math.max(0, put("count", 3) - 4); v < put("count", 3); v++) {
                put("recount", v, sort, 98);
            }
        }
        for (int i = 0; i < 20; i++) {
            put("goes", i, 0);
        }
    }

    /** What THE TAPE has shows in what it is read as. */
    private void theTape() {
        int order = put("order", 2);
        put("count", 6);
        put("paper", order, 5);
        put("factory", 2, 0, 20);
        put("bullion", 0, 500);
        put("ship", 0, 9);
        for (int i = 0; i < 8; i++) {
            put("take");
        }
        for (int i = 0; i < 8; i++) {
            put("copy", order, i);
            put("load", i, 50);
            put("sail", i, 2);
        }
        put("days", 20);
        for (int i = 0; i < 8; i++) {
            put("forced", 2, i);
            put("holds", 2, i);
        }
        put("days", 1);
        voyagesAndEntries();
        put("bullion", 2, 0);
    }

    /** Items of a row show in how an order that has them is read: as a sign, a digit, an end, a letter. */
    private void theSheets() {
        String[] ahead = {"", "keep ", "keep 1", "keep 1 if day"};
        put("order", 1);
        for (int sheet = 0; sheet < 3; sheet++) {
            int sort = sortOf(sheet);
            put("cell", sheet, 0, '7');
            put("carry", sheet, 0, sheet, 1, 3);
            for (int i = 1; sort >= 0 && i < 9; i++) {
                for (String text : ahead) {
                    type(text);
                    put("mail", sheet, sort, i, 1);
                    put("order", 1);
                }
            }
            put("cell", sheet, 62, 1);
            put("cell", sheet, 63, 1);
        }
    }

    private int sortOf(int sheet) {
        int sort = -1;
        for (int s = 0; s < 3; s++) {
            if (put("mail", sheet, s, 0, 1) >= 0) {
                sort = s;
                put("order", 1);
            }
        }
        return sort;
    }

    private void type(String text) {
        for (int i = 0; i < text.length(); i += 4) {
            int bytes = 0;
            int n = Math.min(4, text.length() - i);
            for (int k = 0; k < n; k++) {
                bytes = bytes << 8 | text.charAt(i + k);
            }
            put("feed", bytes, n);
        }
    }

    /** LIMITS show in prices, RANKS in councils, SHARES in a DIVIDEND. */
    private void salesAndCouncils() {
        for (int sort = 0; sort < 4; sort++) {
            for (int i = 0; i < 4; i++) {
                put("sale", sort, 1);
            }
        }
        put("divide", 1);
        put("divide", 99);
        for (int i = 0; i < 8; i++) {
            put("holder", i, 1);
            put("bought", i, 1);
        }
        for (int p = 1; p < 5; p++) {
            put("bullion", p, 2000);
            for (int one = 0; one < 4; one++) {
                put("council", p, 1, 1, 1 << one, 0);
                for (int other = 0; other < 4; other++) {
                    put("council", p, 0, 1, 1 << one, 1 << other);
                }
            }
        }
        put("count", 1);
    }

    private void daysToCome() {
        put("accept", 1);
        for (int i = 0; i < 9; i++) {
            put("take");
        }
        put("ship", 0, 1);
        put("person", 0, 0);
        put("letter", 0, 1);
        int[] steps = {1, 9, 10, 40, 60};
        for (int step : steps) {
            put("days", step);
            for (int p = 0; p < 5; p++) {
                put("bullion", p, 0);
                for (int sort = 0; sort < 4; sort++) {
                    put("stock", p, sort);
                }
            }
            for (int i = 0; i < 8; i++) {
                put("shipOf", i, 0);
                put("shipOf", i, 3);
            }
            put("bill", 1, 0);
            put("count", 5);
            put("count", 1);
        }
    }
}
