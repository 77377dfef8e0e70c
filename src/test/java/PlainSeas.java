import java.util.ArrayList;
import java.util.Arrays;
import java.util.List;
import java.util.TreeMap;
import java.util.regex.Matcher;
import java.util.regex.Pattern;

/**
 * The document once more, for tests: written without regard to speed, room or LANGUAGE.md, and otherwise than
 * the class (orders stay texts, what is in force is sought anew each time, kinds are Java classes).
 */
final class PlainSeas {
    private static final String NUMBER = "[0-9]{1,4}";
    private static final String TEST = "(?:not )?(?:price[0-3]|stock[0-3]|bullion|ships|day)[<=>]" + NUMBER;
    private static final String ACT = "(?:(?:buy|advance|lade) [0-3]|keep|sail|draw) " + NUMBER;
    private static final String PARAGRAPH = ACT + "(?: if " + TEST + "(?: (?:and|or) " + TEST + "){0,3})?";
    private static final Pattern ORDER = Pattern.compile(PARAGRAPH + "(?:;" + PARAGRAPH + "){0,5}", Pattern.DOTALL);

    /** A paper of kind 0, which the others are under. */
    static class Paper {
        int m, d, from, to, copies, five;
        TreeMap<Integer, Integer> known = new TreeMap<>();
        int[] stockThen;
        String[] paragraphs = {};
        String[] acts = {};
        int state, due = -1, sum;
        List<Integer> ran;

        int kind() { return 0; }
        int binds(int x) { ran.add(10); return x + m; }
        int travels(int x) { ran.add(11); return binds(x) * 2; }
        int owes(int x) { ran.add(12); return travels(x) ^ binds(x + d); }
    }

    static class Letter extends Paper {
        @Override int kind() { return 1; }
        @Override int travels(int x) { ran.add(20); return super.travels(x) - m; }
    }

    static class Order extends Letter {
        @Override int kind() { return 2; }
        @Override int binds(int x) { ran.add(30); return super.binds(x) * 3; }
    }

    static class Consult extends Letter {
        @Override int kind() { return 3; }
        @Override int owes(int x) { ran.add(40); return super.owes(x - 1); }
    }

    static class Invoice extends Letter {
        @Override int kind() { return 4; }
        @Override int owes(int x) { ran.add(50); return super.owes(x) + m; }
    }

    static class Bill extends Invoice {
        @Override int kind() { return 5; }
        @Override int travels(int x) { ran.add(60); return super.travels(x) ^ 9; }
        @Override int owes(int x) { ran.add(61); return super.owes(x) * 2; }
    }

    static class Dissent extends Consult {
        @Override int kind() { return 6; }
        @Override int binds(int x) { ran.add(70); return super.binds(x) - d; }
    }

    private static final List<Class<?>> KINDS = List.of(Paper.class, Letter.class, Order.class, Consult.class,
            Invoice.class, Bill.class, Dissent.class);

    static final class Ship {
        int owner, tons, place, bullion, voyage = -1;
        boolean taken;
        int[] bales = new int[4];
        TreeMap<Integer, Integer> tonsOf = new TreeMap<>();
        List<Paper> copies = new ArrayList<>();

        int privateTons() { return tonsOf.values().stream().mapToInt(Integer::intValue).sum(); }
        int allBales() { return Arrays.stream(bales).sum(); }
        int free() { return tons - allBales() - privateTons(); }
    }

    static final class Voyage {
        int ship, from, to, left, comes, invoice = -1, beyond;
        boolean lost, over;
        int[] bales, count;
    }

    static final class Advance {
        int place, sort, day, bales, come;
    }

    private int day;
    private final int[] bullion = new int[5];
    private final int[][] stock = new int[5][4], base = new int[5][4], heat = new int[5][4], told = new int[5][3];
    private final List<int[]> persons = new ArrayList<>();
    private final List<Paper> papers = new ArrayList<>();
    private final List<Ship> ships = new ArrayList<>();
    private final List<Voyage> voyages = new ArrayList<>();
    private final List<Advance> advances = new ArrayList<>();
    private final List<int[]> log = new ArrayList<>();
    private final int[] turns = new int[4];
    private final int[][] want = new int[6][4], limit = new int[6][4], bought = new int[6][2], year = new int[4][4];
    private final int[][] holders = new int[8][2];
    private int sales, dividends, keep;
    private List<Integer> ran = new ArrayList<>();
    private String tape = "";
    private final Object[] sheets = new Object[3];

    PlainSeas() {
        for (int p = 0; p < 5; p++) {
            Arrays.fill(base[p], 20);
            told[p] = new int[] {120, 120, 0};
        }
        for (int[] holder : holders) {
            holder[0] = 100;
        }
    }

    private static boolean in(int v, int a, int b) { return a <= v && v <= b; }
    private static boolean fac(int p) { return in(p, 1, 4); }
    private static boolean plc(int p) { return in(p, 0, 4); }
    private static boolean srt(int s) { return in(s, 0, 3); }
    private boolean pap(int n) { return in(n, 0, papers.size() - 1); }
    private boolean shp(int n) { return in(n, 0, ships.size() - 1); }
    private boolean per(int n) { return in(n, 0, persons.size() - 1); }
    private boolean voy(int n) { return in(n, 0, voyages.size() - 1); }
    private int priceAt(int p, int s) { return base[p][s] + heat[p][s] / 5; }
    private static int setIn(int[] row, int i, int v) { int was = row[i]; row[i] = v; return was; }

    int call(String name, int... a) {
        switch (name) {
            case "factory":
                if (!fac(a[0]) || !in(a[1], 0, 2)) return -1;
                if (a[1] < 2 ? !in(a[2], 20, 240) : !in(a[2], 0, 50)) return -2;
                return setIn(told[a[0]], a[1], a[2]);
            case "base":
                if (!fac(a[0]) || !srt(a[1])) return -1;
                return in(a[2], 1, 999) ? setIn(base[a[0]], a[1], a[2]) : -2;
            case "price": return fac(a[0]) && srt(a[1]) ? priceAt(a[0], a[1]) : -1;
            case "bullion":
                if (!plc(a[0])) return -1;
                if (!in(a[1], -1000000, 1000000) || !in(bullion[a[0]] + a[1], 0, 100000000)) return -2;
                return bullion[a[0]] += a[1];
            case "stock": return plc(a[0]) && srt(a[1]) ? stock[a[0]][a[1]] : -1;
            case "person":
                if (!plc(a[0])) return -1;
                if (!in(a[1], 0, 9)) return -2;
                if (persons.size() == 20) return -4;
                persons.add(new int[] {a[0], a[1]});
                return persons.size() - 1;
            case "goes": return per(a[0]) && plc(a[1]) ? setIn(persons.get(a[0]), 0, a[1]) : -1;
            case "ship":
                if (!in(a[0], 0, 3)) return -1;
                if (!in(a[1], 1, 60)) return -2;
                if (ships.size() == 8) return -4;
                Ship made = new Ship();
                made.owner = a[0];
                made.tons = a[1];
                ships.add(made);
                return ships.size() - 1;
            case "year":
                if (!in(a[0], 0, 3) || !srt(a[1])) return -1;
                return in(a[2], 0, 999) ? setIn(year[a[0]], a[1], a[2]) : -2;
            default: return callPaper(name, a);
        }
    }

    private int callPaper(String name, int[] a) {
        switch (name) {
            case "feed":
                if (!in(a[1], 0, 4)) return -2;
                if (tape.length() + a[1] > 120) return -4;
                for (int i = a[1] - 1; i >= 0; i--) tape += (char) (a[0] >>> 8 * i & 255);
                return tape.length();
            case "mail": return mail(a[0], a[1], a[2], a[3]);
            case "order": return order(a[0]);
            case "letter":
                if (!plc(a[0]) || !plc(a[1])) return -1;
                if (a[0] == a[1]) return -2;
                return papers.size() == 150 ? -4 : write(new Letter(), a[0], a[1]).m;
            case "copy":
                if (!pap(a[0]) || !shp(a[1])) return -1;
                Paper paper = papers.get(a[0]);
                Ship ship = ships.get(a[1]);
                if (ship.place < 0 || !paper.known.containsKey(ship.place)) return -3;
                if (paper.copies == 3) return -4;
                ship.copies.add(paper);
                return ++paper.copies;
            case "known": return pap(a[0]) && plc(a[1]) ? papers.get(a[0]).known.getOrDefault(a[1], -1) : -5;
            case "paper":
                if (!pap(a[0]) || !in(a[1], 0, 5)) return -5;
                Paper q = papers.get(a[0]);
                return new int[] {q.kind(), q.from, q.d, q.to, q.copies, q.five}[a[1]];
            case "force": return fac(a[0]) ? inForce(a[0]).size() : -1;
            case "forced": return fac(a[0]) && in(a[1], 0, inForce(a[0]).size() - 1) ? inForce(a[0]).get(a[1]) : -1;
            case "holds":
                if (!fac(a[0]) || !in(a[1], 0, inForce(a[0]).size() - 1)) return -1;
                return holds(a[0], textOf(inForce(a[0]).get(a[1]))) ? 1 : 0;
            default: return callShip(name, a);
        }
    }

    private int mail(int sheet, int sort, int i, int n) {
        if (!in(sheet, 0, 2) || !in(sort, 0, 2)) return -1;
        if (n < 0) return -2;
        if (n == 0) return tape.length();
        Object row = sheets[sheet];
        if (row != null && sortOf(row) != sort) return -13;
        if (row == null) return -11;
        if (i < 0 || (long) i + n > lengthOf(row)) return -12;
        if (tape.length() + n > 120) return -4;
        for (int k = i; k < i + n; k++) tape += (char) (java.lang.reflect.Array.getInt(row, k) & 255);
        return tape.length();
    }

    private static int sortOf(Object row) { return row instanceof byte[] ? 0 : row instanceof short[] ? 1 : 2; }
    private static int lengthOf(Object row) { return java.lang.reflect.Array.getLength(row); }

    /** The first place up to which, it among them, no order begins so; -1: it is an order. */
    static int faultOf(String text) {
        for (int end = 0; end <= text.length(); end++) {
            Matcher matcher = ORDER.matcher(text.substring(0, end));
            boolean whole = matcher.matches();
            if (!whole && !matcher.hitEnd()) return end - 1;
            if (end == text.length()) return whole ? -1 : end;
        }
        return -1;
    }

    private int order(int p) {
        if (!fac(p)) return -1;
        if (papers.size() == 150) return -4;
        String text = tape;
        tape = "";
        int fault = faultOf(text);
        if (fault >= 0) return -10 - fault;
        Paper order = write(new Order(), 0, p);
        order.paragraphs = text.split(";");
        order.acts = Arrays.stream(order.paragraphs).map(PlainSeas::actOf).toArray(String[]::new);
        order.five = order.paragraphs.length;
        return order.m;
    }

    private <T extends Paper> T write(T paper, int from, int to) {
        paper.m = papers.size();
        paper.d = day;
        paper.from = from;
        paper.to = to;
        paper.stockThen = stock[from].clone();
        paper.known.put(from, day);
        papers.add(paper);
        return paper;
    }

    private String textOf(int forced) { return papers.get(forced / 10).paragraphs[forced % 10]; }

    private static String actOf(String paragraph) {
        String[] words = paragraph.split(" ");
        return words[0].matches("buy|advance|lade") ? words[0] + words[1] : words[0];
    }

    private List<Integer> inForce(int p) {
        List<Paper> orders = new ArrayList<>();
        for (Paper paper : papers) {
            if (paper.kind() == 2 && paper.to == p && paper.known.containsKey(p)) orders.add(paper);
        }
        orders.sort((x, y) -> x.known.get(p).equals(y.known.get(p)) ? x.m - y.m : x.known.get(p) - y.known.get(p));
        List<Integer> result = new ArrayList<>();
        for (int i = 0; i < orders.size(); i++) {
            String[] acts = orders.get(i).acts;
            for (int k = 0; k < acts.length; k++) {
                boolean later = false;
                for (Paper other : orders.subList(i + 1, orders.size())) {
                    later |= Arrays.asList(other.acts).contains(acts[k]);
                }
                if (!later) result.add(10 * orders.get(i).m + k);
            }
        }
        return result;
    }

    private boolean holds(int p, String paragraph) {
        if (!paragraph.contains(" if ")) return true;
        boolean any = false;
        for (String group : paragraph.substring(paragraph.indexOf(" if ") + 4).split(" or ")) {
            boolean all = true;
            for (String test : group.split(" and ")) all &= passes(p, test);
            any |= all;
        }
        return any;
    }

    private boolean passes(int p, String test) {
        if (test.startsWith("not ")) return !passes(p, test.substring(4));
        String[] sides = test.split("[<=>]");
        int value;
        if (sides[0].startsWith("price")) value = priceAt(p, sides[0].charAt(5) - '0');
        else if (sides[0].startsWith("stock")) value = stock[p][sides[0].charAt(5) - '0'];
        else if (sides[0].equals("bullion")) value = bullion[p];
        else if (sides[0].equals("ships")) value = (int) ships.stream().filter(s -> s.place == p).count();
        else value = day % 360;
        int number = Integer.parseInt(sides[1]);
        return test.contains("<") ? value < number : test.contains("=") ? value == number : value > number;
    }

    private int callShip(String name, int[] a) {
        Ship s = a.length > 0 && shp(a[0]) ? ships.get(a[0]) : null;
        switch (name) {
            case "take":
                Ship best = null;
                for (Ship c : ships) {
                    if (c.place == 0 && !c.taken && (best == null || turns[c.owner] < turns[best.owner]
                            || turns[c.owner] == turns[best.owner] && c.owner < best.owner)) best = c;
                }
                if (best == null) return -1;
                best.taken = true;
                turns[best.owner]++;
                return ships.indexOf(best);
            case "load":
                if (s == null) return -1;
                if (s.place < 0) return -3;
                if (a[1] > bullion[s.place] || -(long) a[1] > s.bullion) return -2;
                if (a[1] < 0 && (long) bullion[s.place] - a[1] > 100000000) return -2;
                bullion[s.place] -= a[1];
                return s.bullion += a[1];
            case "stow":
                if (!per(a[0]) || !shp(a[1])) return -1;
                if (!in(a[2], 0, 20)) return -2;
                Ship t = ships.get(a[1]);
                if (t.place != persons.get(a[0])[0]) return -3;
                if (t.free() < a[2]) return -4;
                return t.tonsOf.merge(a[0], a[2], Integer::sum);
            case "sail":
                if (s == null || !fac(a[1])) return -1;
                if (s.place != 0 || !s.taken) return -3;
                return voyages.size() == 99 ? -4 : leave(s, a[1]);
            case "lose":
                if (!voy(a[0])) return -1;
                Voyage lost = voyages.get(a[0]);
                if (lost.over || lost.lost) return -3;
                lost.lost = true;
                return 1;
            case "shipOf":
                if (s == null || !in(a[1], 0, 10)) return -5;
                return new int[] {s.place, s.place == -1 ? voyages.get(s.voyage).comes : -1, s.free(), s.taken ? 1 : 0,
                    s.bullion, s.bales[0], s.bales[1], s.bales[2], s.bales[3], s.copies.size(), s.voyage}[a[1]];
            case "voyage":
                if (!voy(a[0]) || !in(a[1], 0, 12)) return -5;
                Voyage v = voyages.get(a[0]);
                return new int[] {v.ship, v.from, v.to, v.left, v.comes, v.lost ? 1 : 0, v.bales[0], v.bales[1],
                    v.bales[2], v.bales[3], v.invoice, joined(v), v.beyond}[a[1]];
            case "recount":
                if (!voy(a[0]) || !srt(a[1])) return -1;
                Voyage r = voyages.get(a[0]);
                if (r.from == 0 || !r.over || r.lost) return -3;
                return in(a[2], 0, 99) ? setIn(r.count, a[1], a[2]) : -2;
            default: return callDays(name, a);
        }
    }

    private int joined(Voyage v) {
        if (v.from == 0) return -1;
        if (!v.over) return 1;
        if (v.lost) return 2;
        return Arrays.equals(v.bales, v.count) ? 0 : 3;
    }

    private int leave(Ship s, int to) {
        Voyage v = new Voyage();
        v.ship = ships.indexOf(s);
        v.from = s.place;
        v.to = to;
        v.left = day;
        v.comes = day + (to == 0 ? told[s.place][1] : told[to][0]) + (day % 360 >= 240 ? 60 : 0);
        v.bales = s.bales.clone();
        v.count = s.bales.clone();
        if (v.from != 0) {
            int rights = persons.stream().filter(x -> x[0] == v.from).mapToInt(x -> x[1] / 2).sum();
            v.beyond = Math.max(0, s.tons - s.free() - s.allBales() - rights);
        }
        voyages.add(v);
        s.voyage = voyages.size() - 1;
        s.place = -1;
        return s.voyage;
    }

    private int callDays(String name, int[] a) {
        switch (name) {
            case "days":
                if (!in(a[0], 1, 200) || day + a[0] > 2999) return -2;
                for (int i = 0; i < a[0]; i++) comes();
                return day;
            case "entry": return in(a[0], 0, Math.min(log.size(), 500) - 1) && in(a[1], 0, 7) ? log.get(a[0])[a[1]] : -5;
            case "open":
                if (!fac(a[0]) || !srt(a[1])) return -1;
                return advances.stream().filter(x -> x.place == a[0] && x.sort == a[1]).mapToInt(x -> x.bales - x.come).sum();
            case "accept": {
                Bill b = bill(a[0]);
                if (b == null) return -1;
                if (!b.known.containsKey(0) || b.state != 0) return -3;
                b.state = 1;
                return b.due = day + 60;
            }
            case "bill": {
                Bill b = bill(a[0]);
                return b == null || !in(a[1], 0, 2) ? -5 : new int[] {b.state, b.due, b.sum}[a[1]];
            }
            case "refuse": {
                Bill b = bill(a[0]);
                if (b == null) return -1;
                if (!b.known.containsKey(0) || b.state >= 2) return -3;
                b.state = 3;
                return b.sum = withInterest(b);
            }
            case "council": return council(a[0], a[1], a[2], a[3], a[4]);
            default: return callSales(name, a);
        }
    }

    private Bill bill(int n) { return pap(n) && papers.get(n) instanceof Bill b ? b : null; }
    private int withInterest(Bill b) { return b.five + b.five * ((day - b.d) / 30) / 100; }

    private void comes() {
        day++;
        for (Ship s : ships) {
            if (s.place != -1 || voyages.get(s.voyage).comes != day) continue;
            Voyage v = voyages.get(s.voyage);
            v.over = true;
            if (v.lost) {
                s.place = -2;
                s.copies.clear();
            } else {
                s.place = v.to;
                if (v.to == 0) s.taken = false;
                for (int i = 0; i < 4; i++) stock[v.to][i] += s.bales[i];
                bullion[v.to] += s.bullion;
                for (Paper c : s.copies) if (c.to == v.to) c.known.putIfAbsent(v.to, day);
                s.copies.removeIf(c -> c.to == v.to);
            }
            s.bales = new int[4];
            s.bullion = 0;
            s.tonsOf.clear();
        }
        for (Paper paper : papers) {
            if (paper instanceof Bill b && b.state == 1 && b.due == day) {
                b.sum = withInterest(b);
                b.state = bullion[0] >= b.sum ? 2 : 3;
                if (b.state == 2) bullion[0] -= b.sum;
            }
        }
        for (int p = 1; p <= 4; p++) work(p);
    }

    private void work(int p) {
        for (Advance x : advances) {
            if (x.place != p || x.come == x.bales) continue;
            for (int time = 1; time <= 5; time++) {
                if (day == x.day + 10 * time) {
                    int part = time == 5 ? x.bales - x.come : x.bales / 5;
                    x.come += part;
                    stock[p][x.sort] += part - part * told[p][2] / 100;
                }
            }
        }
        for (int s = 0; s < 4; s++) heat[p][s] = Math.max(0, heat[p][s] - 5);
        keep = 0;
        for (int forced : inForce(p)) {
            if (holds(p, textOf(forced))) perform(p, forced, textOf(forced).split(" "));
        }
    }

    private void perform(int p, int forced, String[] words) {
        boolean sorted = words[0].matches("buy|advance|lade");
        int s = sorted ? Integer.parseInt(words[1]) : -1;
        int n = Integer.parseInt(words[sorted ? 2 : 1]);
        switch (words[0]) {
            case "keep": keep = n; break;
            case "buy":
                int[] got = buy(p, s, n, keep);
                if (got[0] > 0) log(p, 0, s, got[0], got[1], forced);
                break;
            case "advance":
                int cost = (int) ((long) n * priceAt(p, s) * 9 / 10);
                if (n == 0 || call("open", p, s) > 0 || cost > bullion[p] - keep) break;
                bullion[p] -= cost;
                Advance x = new Advance();
                x.place = p;
                x.sort = s;
                x.day = day;
                x.bales = n;
                advances.add(x);
                log(p, 1, s, n, cost, forced);
                break;
            case "lade":
                Ship least = ships.stream().filter(c -> c.place == p && c.taken).findFirst().orElse(null);
                int many = least == null ? 0 : Math.min(n, Math.min(stock[p][s], least.free()));
                if (many == 0) break;
                stock[p][s] -= many;
                least.bales[s] += many;
                log(p, 2, s, many, 0, forced);
                break;
            case "sail":
                Ship goes = ships.stream().filter(c -> c.place == p && c.allBales() >= Math.max(n, 1)).findFirst().orElse(null);
                if (goes == null || voyages.size() == 99) break;
                int v = leave(goes, 0);
                if (papers.size() < 150) {
                    Paper invoice = write(new Invoice(), p, 0);
                    invoice.five = v;
                    invoice.copies = 1;
                    goes.copies.add(invoice);
                    voyages.get(v).invoice = invoice.m;
                }
                log(p, 3, -1, v, 0, forced);
                break;
            default:
                boolean open = papers.stream().anyMatch(b -> b instanceof Bill && b.from == p && b.state < 2);
                if (bullion[p] >= n || open || papers.size() == 150) break;
                Paper bill = write(new Bill(), p, 0);
                bill.five = n;
                bullion[p] += n;
                log(p, 4, -1, bill.m, n, forced);
        }
    }

    private int[] buy(int p, int s, int n, int kept) {
        int[] got = new int[2];
        while (got[0] < n && priceAt(p, s) <= bullion[p] - kept) {
            got[0]++;
            got[1] += priceAt(p, s);
            bullion[p] -= priceAt(p, s);
            stock[p][s]++;
            heat[p][s]++;
        }
        return got;
    }

    private void log(int p, int act, int s, int many, int coins, int forced) {
        log.add(new int[] {day, p, act, s, many, coins, forced / 10, forced % 10});
    }

    private int council(int p, int s, int n, int yes, int no) {
        if (!fac(p) || !srt(s)) return -1;
        if (!in(n, 1, 99)) return -2;
        int members = 0, votes = 0, both = 0, nos = 0, ayes = 0, nays = 0, great = -1, greatYes = -1;
        for (int i = 0; i < 32; i++) {
            boolean y = (yes >>> i & 1) == 1, o = (no >>> i & 1) == 1;
            boolean member = i < persons.size() && persons.get(i)[0] == p;
            if ((y || o) && !member) return -2;
            int rank = member ? persons.get(i)[1] : 0;
            members += member ? 1 : 0;
            votes += y || o ? 1 : 0;
            both += y && o ? 1 : 0;
            nos += o ? 1 : 0;
            ayes += y ? rank + 1 : 0;
            nays += o ? rank + 1 : 0;
            if (y || o) great = Math.max(great, rank);
            if (y) greatYes = Math.max(greatYes, rank);
        }
        boolean tie = ayes == nays && votes > 0 && greatYes == great;
        if (votes * 2 < members || both > 0 || !(ayes > nays || tie)) return -3;
        if (papers.size() + 1 + nos > 150) return -4;
        int consult = write(new Consult(), p, 0).m;
        for (int i = 0; i < nos; i++) write(new Dissent(), p, 0);
        int[] got = buy(p, s, n, 0);
        if (got[0] > 0) log.add(new int[] {day, p, 5, s, got[0], got[1], consult, -1});
        return got[1];
    }

    private int callSales(String name, int[] a) {
        switch (name) {
            case "wants":
                if (!in(a[0], 0, 5) || !srt(a[1])) return -1;
                if (!in(a[2], 0, 99) || !in(a[3], 0, 999)) return -2;
                limit[a[0]][a[1]] = a[3];
                return setIn(want[a[0]], a[1], a[2]);
            case "sale": return sale(a[0], a[1]);
            case "bought": return in(a[0], 0, 5) && in(a[1], 0, 1) ? bought[a[0]][a[1]] : -1;
            case "shares":
                if (!in(a[0], 0, 7) || !in(a[1], 0, 7)) return -1;
                if (!in(a[2], 1, holders[a[0]][0]) || a[0] == a[1]) return -2;
                holders[a[0]][0] -= a[2];
                return holders[a[1]][0] += a[2];
            case "gain": return gain();
            case "divide":
                if (a[0] < 0 || a[0] > gain() || a[0] > bullion[0]) return -2;
                int paid = 0;
                for (int[] holder : holders) {
                    int part = (int) ((long) a[0] * holder[0] / 800);
                    holder[1] += part;
                    paid += part;
                }
                dividends += paid;
                bullion[0] -= paid;
                return paid;
            case "holder": return in(a[0], 0, 7) && in(a[1], 0, 1) ? holders[a[0]][a[1]] : -1;
            case "heard":
                if (!fac(a[0]) || !srt(a[1]) || a[2] < 0) return -5;
                int heard = -1;
                for (Paper r : papers) {
                    boolean known = r.known.containsKey(0) && r.known.get(0) <= a[2];
                    if (r.kind() == 1 && r.from == a[0] && r.to == 0 && known) heard = r.stockThen[a[1]];
                }
                return heard;
            case "plan": return plan(a[0], a[1], a[2], a[3]);
            default: return callRest(name, a);
        }
    }

    private int sale(int s, int n) {
        if (!srt(s)) return -1;
        if (!in(n, 1, 99)) return -2;
        if (stock[0][s] < n) return -3;
        int coins = 0;
        for (int i = 0; i < n; i++) {
            List<Integer> wanting = new ArrayList<>();
            for (int b = 0; b < 6; b++) if (want[b][s] > 0) wanting.add(b);
            wanting.sort((x, y) -> limit[x][s] == limit[y][s] ? x - y : limit[y][s] - limit[x][s]);
            if (wanting.isEmpty()) break;
            int buyer = wanting.get(0);
            int price = wanting.size() > 1 ? limit[wanting.get(1)][s] : 0;
            want[buyer][s]--;
            bought[buyer][0]++;
            bought[buyer][1] += price;
            stock[0][s]--;
            coins += price;
        }
        sales += coins;
        bullion[0] += coins;
        return coins;
    }

    private int gain() {
        int gain = sales - dividends;
        for (int[] e : log.subList(0, Math.min(500, log.size()))) {
            boolean known = papers.stream().anyMatch(
                    i -> i.kind() == 4 && i.from == e[1] && i.d >= e[0] && i.known.containsKey(0));
            if (known && (e[2] <= 1 || e[2] == 5)) gain -= e[5];
        }
        return gain;
    }

    private int plan(int p, int tons, int coins, int what) {
        if (!fac(p) || !in(tons, 0, 200) || !in(coins, 0, 1000000) || !in(what, 0, 4)) return -1000000000;
        int[] best = null;
        for (int code = 0; code < 1296; code++) {
            int[] lots = {0, code / 216, code / 36 % 6, code / 6 % 6, code % 6};
            int bales = 0, spent = 0;
            int[] brings = new int[4];
            for (int s = 0; s < 4; s++) {
                bales += 10 * lots[s + 1];
                spent += 10 * lots[s + 1] * base[p][s];
                for (int y = 0; y < 4; y++) brings[y] += 10 * lots[s + 1] * year[y][s];
            }
            lots[0] = Arrays.stream(brings).min().getAsInt() - spent;
            if (bales <= tons && spent <= coins && (best == null || lots[0] > best[0])) best = lots;
        }
        return best[what];
    }

    private int callRest(String name, int[] a) {
        switch (name) {
            case "act":
                ran = new ArrayList<>();
                if (!pap(a[0]) || !in(a[1], 0, 2)) return 0;
                Paper paper = papers.get(a[0]);
                paper.ran = ran;
                return a[1] == 0 ? paper.binds(a[2]) : a[1] == 1 ? paper.travels(a[2]) : paper.owes(a[2]);
            case "trace": return in(a[0], 0, Math.min(20, ran.size()) - 1) ? ran.get(a[0]) : -1;
            case "taken":
                if (!in(a[1], 0, 6)) return -2;
                if (!pap(a[0])) return -11;
                return KINDS.get(a[1]).isInstance(papers.get(a[0])) ? papers.get(a[0]).kind() : -13;
            case "count":
                if (!in(a[0], 0, 10)) return -2;
                int atSea = (int) ships.stream().filter(s -> s.place == -1).count();
                return new int[] {persons.size(), papers.size(), ships.size(), voyages.size(), day, log.size(),
                    tape.length(), atSea, sales, dividends, ran.size()}[a[0]];
            case "sheet":
                if (!in(a[0], 0, 2) || !in(a[1], -1, 2)) return -2;
                if (a[1] >= 0 && a[2] > 64) return -2;
                if (a[1] >= 0 && a[2] < 0) return -14;
                sheets[a[0]] = a[1] < 0 ? null : a[1] == 0 ? new byte[a[2]] : a[1] == 1 ? new short[a[2]] : new int[a[2]];
                return 1;
            case "cell":
                if (!in(a[0], 0, 2)) return -2;
                Object row = sheets[a[0]];
                if (row == null) return -11;
                if (!in(a[1], 0, lengthOf(row) - 1)) return -12;
                if (row instanceof byte[] b) b[a[1]] = (byte) a[2];
                if (row instanceof short[] s) s[a[1]] = (short) a[2];
                if (row instanceof int[] i) i[a[1]] = a[2];
                return 1;
            case "carry":
                if (!in(a[0], 0, 2) || !in(a[2], 0, 2)) return -2;
                Object from = sheets[a[0]], to = sheets[a[2]];
                if (from == null || to == null) return -11;
                if (sortOf(from) != sortOf(to)) return -13;
                long n = a[4];
                if (n < 0 || a[1] < 0 || a[3] < 0 || a[1] + n > lengthOf(from) || a[3] + n > lengthOf(to)) return -12;
                System.arraycopy(from, a[1], to, a[3], a[4]);
                return a[4];
            default: return -99;
        }
    }
}
