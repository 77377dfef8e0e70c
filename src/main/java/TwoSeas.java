import java.util.ArrayList;
import java.util.Arrays;

/** A house at home and four factories half a world away; ../shared/DOC.md has the promises. */
public final class TwoSeas {
    public static final int NONE = -1, BAD = -2, STATE = -3, FULL = -4;

    private static final int NO_SUCH = -5, FAULT_AT_0 = -10, MISSING = -11, NO_ITEM = -12;
    private static final int OTHER_SORT = -13, BELOW_ZERO = -14, NO_PLAN = -1000000000;

    private static final int HOUSE = 0, PLACES = 5, SORTS = 4;
    private static final int MOST_BULLION = 100000000, MOST_HAND = 1000000;
    private static final int LAST_DAY = 2999, YEAR_DAYS = 360, WINTER = 240, WINTER_DAYS = 60;

    private static final int PERSONS = 20, MOST_RANK = 9;
    private static final int PAPERS = 150, MOST_COPIES = 3;
    private static final int OWNERS = 4, SHIPS = 8, VOYAGES = 99;
    private static final int AT_SEA = -1, GONE = -2;
    private static final int ON_SEA = 0, CAME = 1, LOST_AT_SEA = 2;

    private static final int LETTER = 1, ORDER = 2, CONSULT = 3, INVOICE = 4, BILL = 5, DISSENT = 6;
    private static final int KINDS = 7;
    /** By kind, the kind that it is under. */
    private static final int[] ABOVE = {-1, 0, 1, 1, 1, 4, 3};

    private static final int BINDS = 0, TRAVELS = 1, OWES = 2, ACTS = 3;
    /** By kind, its bodies of binds, travels, owes; 0 where it has none of its own. */
    private static final int[] BODIES = {
        10, 11, 12,
        0, 20, 0,
        30, 0, 0,
        0, 0, 40,
        0, 0, 50,
        0, 60, 61,
        70, 0, 0,
    };
    private static final int TRACED = 20, DEEPEST = 40;

    private static final int BUY = 0, ADVANCE = 1, LADE = 2, SAIL = 3, DRAW = 4, BY_COUNCIL = 5, KEEP = 6;
    private static final int PARAGRAPH_KEYS = 28;
    private static final int PRICE_FIELD = 0, STOCK_FIELD = 1, BULLION_FIELD = 2, SHIPS_FIELD = 3, DAY_FIELD = 4;
    private static final int TAPE = 120, PARAGRAPHS = 6, TESTS = 4, DIGITS = 4;

    private static final int DRAWN = 0, ACCEPTED = 1, PAID = 2, REFUSED = 3;
    private static final int BILL_DAYS = 60, MONTH = 30;

    private static final int ENTRIES = 500, ENTRY_ITEMS = 8;
    private static final int BUYERS = 6, HOLDERS = 8, FIRST_SHARES = 100, ALL_SHARES = 800;
    private static final int YEARS = 4, LOTS = 5, LOT = 10;
    private static final int SHEETS = 3, SHEET_ITEMS = 64, BYTES = 0, SHORTS = 1, INTS = 2;

    private int day;
    private final Place[] places = new Place[PLACES];
    private int persons;
    private final int[] personPlace = new int[PERSONS];
    private final int[] personRank = new int[PERSONS];
    private final ArrayList<Paper> papers = new ArrayList<>();
    private final ArrayList<Bill> bills = new ArrayList<>();
    private final ArrayList<Ship> ships = new ArrayList<>();
    private final int[] turns = new int[OWNERS];
    private final ArrayList<Voyage> voyages = new ArrayList<>();
    private int entryCount;
    private final int[] entries = new int[ENTRIES * ENTRY_ITEMS];
    private final Reader reader = new Reader();
    private final Market market = new Market();
    private final int[] sharesOf = new int[HOLDERS];
    private final int[] dividendsOf = new int[HOLDERS];
    private int dividends;
    private final int[][] brings = new int[YEARS][SORTS];
    private final Acts acts = new Acts();
    private final Sheet[] sheets = new Sheet[SHEETS];

    public TwoSeas() {
        for (int p = 0; p < PLACES; p++) {
            places[p] = new Place(p);
        }
        for (int i = 0; i < SHEETS; i++) {
            sheets[i] = new Sheet();
        }
        Arrays.fill(sharesOf, FIRST_SHARES);
    }

    // ---- places, persons

    public int factory(int p, int what, int v) {
        if (!isFactory(p) || !within(what, 0, 2)) {
            return NONE;
        }
        Place place = places[p];
        int was;
        if (what == 2) {
            if (!within(v, 0, 50)) {
                return BAD;
            }
            was = place.spoilt;
            place.spoilt = v;
            return was;
        }
        if (!within(v, 20, 240)) {
            return BAD;
        }
        if (what == 0) {
            was = place.out;
            place.out = v;
        } else {
            was = place.back;
            place.back = v;
        }
        return was;
    }

    public int base(int p, int sort, int v) {
        if (!isFactory(p) || !isSort(sort)) {
            return NONE;
        }
        if (!within(v, 1, 999)) {
            return BAD;
        }
        int was = places[p].base[sort];
        places[p].base[sort] = v;
        return was;
    }

    public int price(int p, int sort) {
        return isFactory(p) && isSort(sort) ? places[p].priceOf(sort) : NONE;
    }

    public int bullion(int p, int v) {
        if (!isPlace(p)) {
            return NONE;
        }
        if (!within(v, -MOST_HAND, MOST_HAND) || !within(places[p].bullion + v, 0, MOST_BULLION)) {
            return BAD;
        }
        places[p].bullion += v;
        return places[p].bullion;
    }

    public int stock(int p, int sort) {
        return isPlace(p) && isSort(sort) ? places[p].stock[sort] : NONE;
    }

    public int person(int p, int rank) {
        if (!isPlace(p)) {
            return NONE;
        }
        if (!within(rank, 0, MOST_RANK)) {
            return BAD;
        }
        if (persons >= PERSONS) {
            return FULL;
        }
        personPlace[persons] = p;
        personRank[persons] = rank;
        persons++;
        return persons - 1;
    }

    public int goes(int person, int p) {
        if (!isPerson(person) || !isPlace(p)) {
            return NONE;
        }
        int was = personPlace[person];
        personPlace[person] = p;
        return was;
    }

    // ---- papers

    public int feed(int bytes, int n) {
        if (!within(n, 0, 4)) {
            return BAD;
        }
        if (!reader.hasRoomFor(n)) {
            return FULL;
        }
        for (int i = n - 1; i >= 0; i--) {
            reader.append(bytes >> (8 * i));
        }
        return reader.length;
    }

    public int mail(int sheet, int sort, int i, int n) {
        if (!isSheet(sheet) || !within(sort, BYTES, INTS)) {
            return NONE;
        }
        if (n < 0) {
            return BAD;
        }
        if (n == 0) {
            return reader.length;
        }
        Sheet row = sheets[sheet];
        if (row.isMissing()) {
            return MISSING;
        }
        if (row.sort != sort) {
            return OTHER_SORT;
        }
        if (!row.has(i, n)) {
            return NO_ITEM;
        }
        if (!reader.hasRoomFor(n)) {
            return FULL;
        }
        for (int k = i; k < i + n; k++) {
            reader.append(row.items[k]);
        }
        return reader.length;
    }

    public int order(int p) {
        if (!isFactory(p)) {
            return NONE;
        }
        if (!hasRoomForPapers(1)) {
            return FULL;
        }
        Paper order = new Paper(papers.size(), ORDER, places[HOUSE], p, day);
        int fault = reader.readInto(order);
        if (fault >= 0) {
            return FAULT_AT_0 - fault;
        }
        order.detail = order.paragraphs.size();
        papers.add(order);
        return order.number;
    }

    public int letter(int from, int to) {
        if (!isPlace(from) || !isPlace(to)) {
            return NONE;
        }
        if (from == to) {
            return BAD;
        }
        if (!hasRoomForPapers(1)) {
            return FULL;
        }
        return write(LETTER, places[from], to).number;
    }

    public int copy(int paper, int ship) {
        if (!isPaper(paper) || !isShip(ship)) {
            return NONE;
        }
        Paper copied = papers.get(paper);
        Ship aboard = ships.get(ship);
        if (!isPlace(aboard.place) || copied.known[aboard.place] < 0) {
            return STATE;
        }
        if (copied.copies >= MOST_COPIES) {
            return FULL;
        }
        copied.comesAboard(aboard);
        return copied.copies;
    }

    public int known(int paper, int p) {
        return isPaper(paper) && isPlace(p) ? papers.get(paper).known[p] : NO_SUCH;
    }

    public int paper(int paper, int what) {
        if (!isPaper(paper)) {
            return NO_SUCH;
        }
        Paper asked = papers.get(paper);
        switch (what) {
            case 0: return asked.kind;
            case 1: return asked.from;
            case 2: return asked.written;
            case 3: return asked.to;
            case 4: return asked.copies;
            case 5: return asked.detail;
            default: return NO_SUCH;
        }
    }

    public int force(int p) {
        return isFactory(p) ? places[p].inForce.size() : NONE;
    }

    public int forced(int p, int i) {
        if (!isInForce(p, i)) {
            return NONE;
        }
        Paragraph paragraph = places[p].inForce.get(i);
        return 10 * paragraph.paper + paragraph.index;
    }

    public int holds(int p, int i) {
        if (!isInForce(p, i)) {
            return NONE;
        }
        return testsHold(places[p].inForce.get(i), places[p]) ? 1 : 0;
    }

    // ---- ships

    public int ship(int owner, int tons) {
        if (!within(owner, 0, OWNERS - 1)) {
            return NONE;
        }
        if (!within(tons, 1, 60)) {
            return BAD;
        }
        if (ships.size() >= SHIPS) {
            return FULL;
        }
        ships.add(new Ship(ships.size(), owner, tons));
        return ships.size() - 1;
    }

    public int take() {
        int best = NONE;
        for (int i = 0; i < ships.size(); i++) {
            Ship ship = ships.get(i);
            boolean free = ship.place == HOUSE && !ship.takenUp;
            if (free && (best == NONE || isTurnBefore(ship.owner, ships.get(best).owner))) {
                best = i;
            }
        }
        if (best != NONE) {
            ships.get(best).takenUp = true;
            turns[ships.get(best).owner]++;
        }
        return best;
    }

    public int load(int ship, int v) {
        if (!isShip(ship)) {
            return NONE;
        }
        Ship loaded = ships.get(ship);
        if (!isPlace(loaded.place)) {
            return STATE;
        }
        Place place = places[loaded.place];
        if (!canMove(loaded, place, v)) {
            return BAD;
        }
        loaded.bullion += v;
        place.bullion -= v;
        return loaded.bullion;
    }

    public int stow(int person, int ship, int tons) {
        if (!isPerson(person) || !isShip(ship)) {
            return NONE;
        }
        if (!within(tons, 0, 20)) {
            return BAD;
        }
        Ship stowed = ships.get(ship);
        if (stowed.place != personPlace[person]) {
            return STATE;
        }
        if (tons > stowed.freeTons()) {
            return FULL;
        }
        stowed.privateTons[person] += tons;
        return stowed.privateTons[person];
    }

    public int sail(int ship, int p) {
        if (!isShip(ship) || !isFactory(p)) {
            return NONE;
        }
        Ship sailing = ships.get(ship);
        if (sailing.place != HOUSE || !sailing.takenUp) {
            return STATE;
        }
        if (voyages.size() >= VOYAGES) {
            return FULL;
        }
        return leave(sailing, p, places[p].out, 0).number;
    }

    public int lose(int voyage) {
        if (!isVoyage(voyage)) {
            return NONE;
        }
        Voyage lost = voyages.get(voyage);
        if (lost.end != ON_SEA || lost.toldLost) {
            return STATE;
        }
        lost.toldLost = true;
        return 1;
    }

    public int shipOf(int ship, int what) {
        if (!isShip(ship)) {
            return NO_SUCH;
        }
        Ship asked = ships.get(ship);
        if (within(what, 5, 8)) {
            return asked.bales[what - 5];
        }
        switch (what) {
            case 0: return asked.place;
            case 1: return asked.place == AT_SEA ? asked.comes : -1;
            case 2: return asked.freeTons();
            case 3: return asked.takenUp ? 1 : 0;
            case 4: return asked.bullion;
            case 9: return sumOf(asked.copies);
            case 10: return asked.latestVoyage;
            default: return NO_SUCH;
        }
    }

    public int voyage(int v, int what) {
        if (!isVoyage(v)) {
            return NO_SUCH;
        }
        Voyage asked = voyages.get(v);
        if (within(what, 6, 9)) {
            return asked.bales[what - 6];
        }
        switch (what) {
            case 0: return asked.ship;
            case 1: return asked.from;
            case 2: return asked.to;
            case 3: return asked.left;
            case 4: return asked.comes;
            case 5: return asked.toldLost ? 1 : 0;
            case 10: return asked.invoice;
            case 11: return asked.joined();
            case 12: return asked.beyond;
            default: return NO_SUCH;
        }
    }

    public int recount(int v, int sort, int n) {
        if (!isVoyage(v) || !isSort(sort)) {
            return NONE;
        }
        Voyage told = voyages.get(v);
        if (told.from == HOUSE || told.end != CAME) {
            return STATE;
        }
        if (!within(n, 0, 99)) {
            return BAD;
        }
        int was = told.counted[sort];
        told.counted[sort] = n;
        return was;
    }

    // ---- days

    public int days(int n) {
        if (!within(n, 1, 200) || day + n > LAST_DAY) {
            return BAD;
        }
        for (int i = 0; i < n; i++) {
            comeDay();
        }
        return day;
    }

    public int entry(int i, int what) {
        boolean kept = i >= 0 && i < entriesKept();
        return kept && within(what, 0, ENTRY_ITEMS - 1) ? entries[i * ENTRY_ITEMS + what] : NO_SUCH;
    }

    public int open(int p, int sort) {
        return isFactory(p) && isSort(sort) ? places[p].advanceLeft[sort] : NONE;
    }

    // ---- bills, councils

    public int accept(int paper) {
        Bill accepted = billAt(paper);
        if (accepted == null) {
            return NONE;
        }
        if (accepted.known[HOUSE] < 0 || accepted.state != DRAWN) {
            return STATE;
        }
        accepted.state = ACCEPTED;
        accepted.due = day + BILL_DAYS;
        return accepted.due;
    }

    public int bill(int paper, int what) {
        Bill asked = billAt(paper);
        if (asked == null) {
            return NO_SUCH;
        }
        switch (what) {
            case 0: return asked.state;
            case 1: return asked.due;
            case 2: return asked.settled;
            default: return NO_SUCH;
        }
    }

    public int refuse(int paper) {
        Bill refused = billAt(paper);
        if (refused == null) {
            return NONE;
        }
        if (refused.known[HOUSE] < 0 || !refused.isOpen()) {
            return STATE;
        }
        refused.settle(REFUSED, day);
        return refused.settled;
    }

    public int council(int p, int sort, int n, int yes, int no) {
        if (!isFactory(p) || !isSort(sort)) {
            return NONE;
        }
        int members = personsAt(p);
        if (!within(n, 1, 99) || ((yes | no) & ~members) != 0) {
            return BAD;
        }
        if (!carries(members, yes, no)) {
            return STATE;
        }
        int dissents = Integer.bitCount(no);
        if (!hasRoomForPapers(1 + dissents)) {
            return FULL;
        }
        Place place = places[p];
        Paper consult = write(CONSULT, place, HOUSE);
        for (int i = 0; i < dissents; i++) {
            write(DISSENT, place, HOUSE);
        }
        int had = place.stock[sort];
        int coins = place.purchase(sort, n, 0);
        int many = place.stock[sort] - had;
        if (many > 0) {
            enter(p, BY_COUNCIL, sort, many, coins, consult.number, -1);
        }
        return coins;
    }

    // ---- sales, shares

    public int wants(int buyer, int sort, int n, int limit) {
        if (!within(buyer, 0, BUYERS - 1) || !isSort(sort)) {
            return NONE;
        }
        if (!within(n, 0, 99) || !within(limit, 0, 999)) {
            return BAD;
        }
        int was = market.wanted[buyer][sort];
        market.wanted[buyer][sort] = n;
        market.limit[buyer][sort] = limit;
        return was;
    }

    public int sale(int sort, int n) {
        if (!isSort(sort)) {
            return NONE;
        }
        if (!within(n, 1, 99)) {
            return BAD;
        }
        Place house = places[HOUSE];
        if (house.stock[sort] < n) {
            return STATE;
        }
        int coins = 0;
        for (int i = 0; i < n; i++) {
            int buyer = market.greatest(sort, -1);
            if (buyer < 0) {
                break;
            }
            coins += market.sellOne(sort, buyer);
            house.stock[sort]--;
        }
        house.bullion += coins;
        market.coins += coins;
        return coins;
    }

    public int bought(int buyer, int what) {
        if (!within(buyer, 0, BUYERS - 1) || !within(what, 0, 1)) {
            return NONE;
        }
        return what == 0 ? market.boughtBy[buyer] : market.paidBy[buyer];
    }

    public int shares(int from, int to, int n) {
        if (!isHolder(from) || !isHolder(to)) {
            return NONE;
        }
        if (!within(n, 1, sharesOf[from]) || from == to) {
            return BAD;
        }
        sharesOf[from] -= n;
        sharesOf[to] += n;
        return sharesOf[to];
    }

    public int gain() {
        int gained = market.coins - dividends;
        for (int i = 0; i < entriesKept(); i++) {
            int row = i * ENTRY_ITEMS;
            int act = entries[row + 2];
            boolean costs = act == BUY || act == ADVANCE || act == BY_COUNCIL;
            if (costs && entries[row] <= invoicedTo(entries[row + 1])) {
                gained -= entries[row + 5];
            }
        }
        return gained;
    }

    public int divide(int c) {
        if (c < 0 || c > gain() || c > places[HOUSE].bullion) {
            return BAD;
        }
        int paid = 0;
        for (int h = 0; h < HOLDERS; h++) {
            int part = (int) ((long) c * sharesOf[h] / ALL_SHARES);
            dividendsOf[h] += part;
            paid += part;
        }
        places[HOUSE].bullion -= paid;
        dividends += paid;
        return paid;
    }

    public int holder(int h, int what) {
        if (!isHolder(h) || !within(what, 0, 1)) {
            return NONE;
        }
        return what == 0 ? sharesOf[h] : dividendsOf[h];
    }

    // ---- what is heard, plans

    public int heard(int p, int sort, int day) {
        if (!isFactory(p) || !isSort(sort) || day < 0) {
            return NO_SUCH;
        }
        // Numbers rise with days: the greatest number is the report written latest.
        for (int i = papers.size() - 1; i >= 0; i--) {
            Paper report = papers.get(i);
            boolean itsReport = report.kind == LETTER && report.from == p && report.to == HOUSE;
            if (itsReport && within(report.known[HOUSE], 0, day)) {
                return report.stockTold[sort];
            }
        }
        return NONE;
    }

    public int year(int year, int sort, int v) {
        if (!within(year, 0, YEARS - 1) || !isSort(sort)) {
            return NONE;
        }
        if (!within(v, 0, 999)) {
            return BAD;
        }
        int was = brings[year][sort];
        brings[year][sort] = v;
        return was;
    }

    public int plan(int p, int tons, int coins, int what) {
        boolean told = isFactory(p) && within(tons, 0, 200) && within(coins, 0, 1000000);
        if (!told || !within(what, 0, SORTS)) {
            return NO_PLAN;
        }
        int[] cost = places[p].base;
        int mostLots = tons / LOT;
        int mostCost = coins / LOT;
        int[] best = new int[1 + SORTS];
        best[0] = NO_PLAN;
        for (int a = 0; a <= LOTS; a++) {
            for (int b = 0; b <= LOTS; b++) {
                for (int c = 0; c <= LOTS; c++) {
                    for (int d = 0; d <= LOTS; d++) {
                        int spent = a * cost[0] + b * cost[1] + c * cost[2] + d * cost[3];
                        if (a + b + c + d > mostLots || spent > mostCost) {
                            break;
                        }
                        keepIfBetter(best, LOT * (worstYear(a, b, c, d) - spent), a, b, c, d);
                    }
                }
            }
        }
        return best[what];
    }

    // ---- acts, sheets

    public int act(int paper, int act, int x) {
        acts.begin();
        if (!isPaper(paper) || !within(act, 0, ACTS - 1)) {
            return 0;
        }
        Paper acting = papers.get(paper);
        return acts.run(acting, acting.kind, act, x, 0);
    }

    public int trace(int i) {
        return i >= 0 && i < Math.min(acts.ran, TRACED) ? acts.bodies[i] : NONE;
    }

    public int taken(int paper, int k) {
        if (!within(k, 0, KINDS - 1)) {
            return BAD;
        }
        if (!isPaper(paper)) {
            return MISSING;
        }
        int kind = papers.get(paper).kind;
        return isUnder(kind, k) ? kind : OTHER_SORT;
    }

    public int count(int what) {
        switch (what) {
            case 0: return persons;
            case 1: return papers.size();
            case 2: return ships.size();
            case 3: return voyages.size();
            case 4: return day;
            case 5: return entryCount;
            case 6: return reader.length;
            case 7: return shipsAt(AT_SEA);
            case 8: return market.coins;
            case 9: return dividends;
            case 10: return acts.ran;
            default: return BAD;
        }
    }

    public int sheet(int sheet, int sort, int n) {
        if (!isSheet(sheet) || !within(sort, -1, INTS)) {
            return BAD;
        }
        if (sort < 0) {
            sheets[sheet].become(-1, 0);
            return 1;
        }
        if (n > SHEET_ITEMS) {
            return BAD;
        }
        if (n < 0) {
            return BELOW_ZERO;
        }
        sheets[sheet].become(sort, n);
        return 1;
    }

    public int cell(int sheet, int i, int v) {
        if (!isSheet(sheet)) {
            return BAD;
        }
        Sheet row = sheets[sheet];
        if (row.isMissing()) {
            return MISSING;
        }
        if (!row.has(i, 1)) {
            return NO_ITEM;
        }
        row.put(i, v);
        return 1;
    }

    public int carry(int sheet, int i, int other, int j, int n) {
        if (!isSheet(sheet) || !isSheet(other)) {
            return BAD;
        }
        Sheet from = sheets[sheet];
        Sheet to = sheets[other];
        if (from.isMissing() || to.isMissing()) {
            return MISSING;
        }
        if (from.sort != to.sort) {
            return OTHER_SORT;
        }
        if (n < 0 || !from.has(i, n) || !to.has(j, n)) {
            return NO_ITEM;
        }
        System.arraycopy(from.items, i, to.items, j, n);
        return n;
    }

    // ---- which numbers there are

    private static boolean within(int v, int least, int most) {
        return v >= least && v <= most;
    }

    private static boolean isPlace(int p) {
        return p >= 0 && p < PLACES;
    }

    private static boolean isFactory(int p) {
        return p > HOUSE && p < PLACES;
    }

    private static boolean isSort(int sort) {
        return sort >= 0 && sort < SORTS;
    }

    private static boolean isSheet(int sheet) {
        return sheet >= 0 && sheet < SHEETS;
    }

    private static boolean isHolder(int h) {
        return h >= 0 && h < HOLDERS;
    }

    private boolean isPerson(int person) {
        return person >= 0 && person < persons;
    }

    private boolean isPaper(int paper) {
        return paper >= 0 && paper < papers.size();
    }

    private boolean isShip(int ship) {
        return ship >= 0 && ship < ships.size();
    }

    private boolean isVoyage(int voyage) {
        return voyage >= 0 && voyage < voyages.size();
    }

    private boolean isInForce(int p, int i) {
        return isFactory(p) && i >= 0 && i < places[p].inForce.size();
    }

    private Bill billAt(int paper) {
        if (isPaper(paper) && papers.get(paper) instanceof Bill found) {
            return found;
        }
        return null;
    }

    private int entriesKept() {
        return Math.min(entryCount, ENTRIES);
    }

    private static int sumOf(int[] numbers) {
        int sum = 0;
        for (int i = 0; i < numbers.length; i++) {
            sum += numbers[i];
        }
        return sum;
    }

    // ---- papers and ships on their way

    private boolean hasRoomForPapers(int n) {
        return papers.size() + n <= PAPERS;
    }

    private Paper write(int kind, Place from, int to) {
        Paper written = new Paper(papers.size(), kind, from, to, day);
        papers.add(written);
        return written;
    }

    private int shipsAt(int place) {
        int there = 0;
        for (int i = 0; i < ships.size(); i++) {
            if (ships.get(i).place == place) {
                there++;
            }
        }
        return there;
    }

    private boolean isTurnBefore(int owner, int other) {
        return turns[owner] < turns[other] || turns[owner] == turns[other] && owner < other;
    }

    private Voyage leave(Ship ship, int to, int daysAtSea, int beyond) {
        int comes = day + daysAtSea + (day % YEAR_DAYS >= WINTER ? WINTER_DAYS : 0);
        Voyage voyage = new Voyage(voyages.size(), ship, to, day, comes);
        voyage.beyond = beyond;
        voyages.add(voyage);
        ship.place = AT_SEA;
        ship.comes = comes;
        ship.latestVoyage = voyage.number;
        return voyage;
    }

    /** The bound is one of a PLACE, of what comes to it: a SHIP carries whatever there is. */
    private static boolean canMove(Ship ship, Place place, int v) {
        if (v >= 0) {
            return v <= place.bullion;
        }
        // A long, as the least int has no opposite.
        long ashore = -(long) v;
        return ashore <= ship.bullion && place.bullion + ashore <= MOST_BULLION;
    }

    /** PRIVATE tons aboard beyond the rights of all who are at the factory now. */
    private int beyondRights(Ship ship, int p) {
        int beyond = sumOf(ship.privateTons);
        for (int i = 0; i < persons; i++) {
            if (personPlace[i] == p) {
                beyond -= personRank[i] / 2;
            }
        }
        return Math.max(beyond, 0);
    }

    // ---- a day comes

    private void comeDay() {
        day++;
        for (int i = 0; i < ships.size(); i++) {
            Ship ship = ships.get(i);
            if (ship.place == AT_SEA && ship.comes == day && isVoyage(ship.latestVoyage)) {
                endVoyage(ship, voyages.get(ship.latestVoyage));
            }
        }
        for (int i = 0; i < bills.size(); i++) {
            Bill bill = bills.get(i);
            if (bill.state == ACCEPTED && bill.due == day) {
                fallDue(bill);
            }
        }
        for (int p = HOUSE + 1; p < PLACES; p++) {
            workAt(places[p]);
        }
    }

    private void endVoyage(Ship ship, Voyage voyage) {
        if (voyage.toldLost) {
            voyage.end = LOST_AT_SEA;
            ship.place = GONE;
            Arrays.fill(ship.copies, 0);
        } else {
            voyage.end = CAME;
            arrive(ship, places[voyage.to]);
        }
        ship.clearHold();
    }

    private void arrive(Ship ship, Place place) {
        ship.place = place.number;
        if (place.number == HOUSE) {
            ship.takenUp = false;
        }
        for (int sort = 0; sort < SORTS; sort++) {
            place.stock[sort] += ship.bales[sort];
        }
        place.bullion += ship.bullion;
        for (int i = 0; i < papers.size() && i < PAPERS; i++) {
            if (ship.copies[i] > 0 && papers.get(i).to == place.number) {
                ship.copies[i] = 0;
                readAt(papers.get(i), place);
            }
        }
    }

    private void readAt(Paper paper, Place place) {
        if (paper.known[place.number] >= 0) {
            return;
        }
        paper.known[place.number] = day;
        if (paper.kind == ORDER) {
            place.receiveOrder(paper);
        }
        if (paper.kind == INVOICE) {
            Place writer = places[paper.from];
            writer.invoicedTo = Math.max(writer.invoicedTo, paper.written);
        }
    }

    private void fallDue(Bill bill) {
        Place house = places[HOUSE];
        bill.settle(PAID, day);
        if (bill.settled > house.bullion) {
            bill.state = REFUSED;
        } else {
            house.bullion -= bill.settled;
        }
    }

    private void workAt(Place place) {
        place.receiveAdvances(day);
        place.coolDown();
        place.keep = 0;
        for (int i = 0; i < place.inForce.size(); i++) {
            Paragraph paragraph = place.inForce.get(i);
            if (testsHold(paragraph, place)) {
                carryOut(paragraph, place);
            }
        }
    }

    /** and binds closer than or: each or ends a group of which all must hold. */
    private boolean testsHold(Paragraph paragraph, Place place) {
        boolean groupHolds = true;
        for (int i = 0; i < paragraph.tests.size(); i++) {
            Test test = paragraph.tests.get(i);
            if (test.afterOr) {
                if (groupHolds) {
                    return true;
                }
                groupHolds = true;
            }
            groupHolds = groupHolds && test.isMetBy(fieldValue(test, place));
        }
        return groupHolds;
    }

    private int fieldValue(Test test, Place place) {
        switch (test.field) {
            case PRICE_FIELD: return place.priceOf(test.sort);
            case STOCK_FIELD: return place.stock[test.sort];
            case BULLION_FIELD: return place.bullion;
            case SHIPS_FIELD: return shipsAt(place.number);
            default: return day % YEAR_DAYS;
        }
    }

    private void carryOut(Paragraph paragraph, Place place) {
        switch (paragraph.act) {
            case BUY: buyBales(paragraph, place); break;
            case ADVANCE: giveAdvance(paragraph, place); break;
            case LADE: ladeShip(paragraph, place); break;
            case SAIL: sendShip(paragraph, place); break;
            case DRAW: drawBill(paragraph, place); break;
            default: place.keep = paragraph.number;
        }
    }

    private void buyBales(Paragraph paragraph, Place place) {
        int had = place.stock[paragraph.sort];
        int coins = place.purchase(paragraph.sort, paragraph.number, place.keep);
        int many = place.stock[paragraph.sort] - had;
        if (many > 0) {
            enterFor(paragraph, place, many, coins);
        }
    }

    private void giveAdvance(Paragraph paragraph, Place place) {
        int sort = paragraph.sort;
        int many = paragraph.number;
        long coins = (long) many * place.priceOf(sort) * 9 / 10;
        if (many == 0 || place.advanceLeft[sort] > 0 || coins > place.bullion - place.keep) {
            return;
        }
        place.bullion -= (int) coins;
        place.advanceDay[sort] = day;
        place.advanceBales[sort] = many;
        place.advanceLeft[sort] = many;
        enterFor(paragraph, place, many, (int) coins);
    }

    private void ladeShip(Paragraph paragraph, Place place) {
        int sort = paragraph.sort;
        for (int i = 0; i < ships.size(); i++) {
            Ship ship = ships.get(i);
            if (ship.place == place.number && ship.takenUp) {
                int room = Math.min(place.stock[sort], ship.freeTons());
                int many = Math.min(paragraph.number, room);
                if (many > 0) {
                    place.stock[sort] -= many;
                    ship.bales[sort] += many;
                    enterFor(paragraph, place, many, 0);
                }
                return;
            }
        }
    }

    private void sendShip(Paragraph paragraph, Place place) {
        int least = Math.max(paragraph.number, 1);
        for (int i = 0; i < ships.size(); i++) {
            Ship ship = ships.get(i);
            if (ship.place == place.number && sumOf(ship.bales) >= least) {
                if (voyages.size() < VOYAGES) {
                    Voyage voyage = leave(ship, HOUSE, place.back, beyondRights(ship, place.number));
                    writeInvoice(voyage, ship, place);
                    enterFor(paragraph, place, voyage.number, 0);
                }
                return;
            }
        }
    }

    private void writeInvoice(Voyage voyage, Ship ship, Place place) {
        if (hasRoomForPapers(1)) {
            Paper invoice = new Paper(papers.size(), INVOICE, place, HOUSE, day);
            invoice.detail = voyage.number;
            invoice.comesAboard(ship);
            papers.add(invoice);
            voyage.invoice = invoice.number;
        }
    }

    private void drawBill(Paragraph paragraph, Place place) {
        int amount = paragraph.number;
        boolean open = place.lastBill != null && place.lastBill.isOpen();
        if (place.bullion >= amount || open || !hasRoomForPapers(1)) {
            return;
        }
        Bill bill = new Bill(papers.size(), place, day, amount);
        papers.add(bill);
        bills.add(bill);
        place.lastBill = bill;
        place.bullion += amount;
        enterFor(paragraph, place, bill.number, amount);
    }

    private void enterFor(Paragraph paragraph, Place place, int many, int coins) {
        enter(place.number, paragraph.act, paragraph.sort, many, coins, paragraph.paper, paragraph.index);
    }

    private void enter(int p, int act, int sort, int many, int coins, int paper, int paragraph) {
        if (entryCount < ENTRIES) {
            int row = entryCount * ENTRY_ITEMS;
            entries[row] = day;
            entries[row + 1] = p;
            entries[row + 2] = act;
            entries[row + 3] = sort;
            entries[row + 4] = many;
            entries[row + 5] = coins;
            entries[row + 6] = paper;
            entries[row + 7] = paragraph;
        }
        entryCount++;
    }

    // ---- councils, gain, plans, kinds

    private int personsAt(int p) {
        int set = 0;
        for (int i = 0; i < persons; i++) {
            if (personPlace[i] == p) {
                set |= 1 << i;
            }
        }
        return set;
    }

    private boolean carries(int members, int yes, int no) {
        int voters = yes | no;
        if ((yes & no) != 0 || 2 * Integer.bitCount(voters) < Integer.bitCount(members)) {
            return false;
        }
        int lead = weightOf(yes) - weightOf(no);
        return lead > 0 || lead == 0 && voters != 0 && greatestRank(yes) == greatestRank(voters);
    }

    private int weightOf(int set) {
        int weight = 0;
        for (int i = 0; i < persons; i++) {
            if ((set >> i & 1) != 0) {
                weight += personRank[i] + 1;
            }
        }
        return weight;
    }

    private int greatestRank(int set) {
        int greatest = -1;
        for (int i = 0; i < persons; i++) {
            if ((set >> i & 1) != 0) {
                greatest = Math.max(greatest, personRank[i]);
            }
        }
        return greatest;
    }

    private int invoicedTo(int p) {
        return isFactory(p) ? places[p].invoicedTo : -1;
    }

    /** What the lots bring in the year that brings least, by single bales of each lot. */
    private int worstYear(int a, int b, int c, int d) {
        int worst = lotsBring(brings[0], a, b, c, d);
        for (int y = 1; y < YEARS; y++) {
            worst = Math.min(worst, lotsBring(brings[y], a, b, c, d));
        }
        return worst;
    }

    private static int lotsBring(int[] bale, int a, int b, int c, int d) {
        return a * bale[0] + b * bale[1] + c * bale[2] + d * bale[3];
    }

    /** Only more is better: of several the first one stays. */
    private static void keepIfBetter(int[] best, int gained, int a, int b, int c, int d) {
        if (gained > best[0]) {
            best[0] = gained;
            best[1] = a;
            best[2] = b;
            best[3] = c;
            best[4] = d;
        }
    }

    private static boolean isUnder(int kind, int k) {
        int at = kind;
        for (int i = 0; i < KINDS && at >= 0 && at < KINDS; i++) {
            if (at == k) {
                return true;
            }
            at = ABOVE[at];
        }
        return false;
    }

    /** The house or a factory, with what is known and done there. */
    private static final class Place {
        final int number;
        int bullion;
        final int[] stock = new int[SORTS];
        int out = 120;
        int back = 120;
        int spoilt;
        final int[] base = {20, 20, 20, 20};
        final int[] heat = new int[SORTS];
        int keep;
        // One advance of a sort at most is open here, so a row by sorts holds them all.
        final int[] advanceDay = new int[SORTS];
        final int[] advanceBales = new int[SORTS];
        final int[] advanceLeft = new int[SORTS];
        final ArrayList<Paper> orders = new ArrayList<>();
        final ArrayList<Paragraph> inForce = new ArrayList<>();
        final int[] latestOrder = new int[PARAGRAPH_KEYS];
        /** Only the bill drawn latest can be open: none is drawn while one is. */
        Bill lastBill;
        /** The day of the latest invoice from here that the house knows. */
        int invoicedTo = -1;

        Place(int number) {
            this.number = number;
        }

        int priceOf(int sort) {
            return base[sort] + heat[sort] / 5;
        }

        /** Buys as long as coins beyond keep last, and answers the coins. */
        int purchase(int sort, int most, int keep) {
            int coins = 0;
            for (int i = 0; i < most; i++) {
                int price = priceOf(sort);
                if (price > bullion - keep) {
                    break;
                }
                bullion -= price;
                coins += price;
                stock[sort]++;
                heat[sort]++;
            }
            return coins;
        }

        void receiveAdvances(int day) {
            for (int sort = 0; sort < SORTS; sort++) {
                int since = day - advanceDay[sort];
                if (advanceLeft[sort] > 0 && since > 0 && since % 10 == 0) {
                    int come = since < 50 ? advanceBales[sort] / 5 : advanceLeft[sort];
                    advanceLeft[sort] -= come;
                    stock[sort] += come - come * spoilt / 100;
                }
            }
        }

        void coolDown() {
            for (int sort = 0; sort < SORTS; sort++) {
                heat[sort] = Math.max(heat[sort] - 5, 0);
            }
        }

        /** Orders stand by the day they came to be known, of one day by numbers. */
        void receiveOrder(Paper order) {
            int at = orders.size();
            while (at > 0 && comesBehind(orders.get(at - 1), order)) {
                at--;
            }
            orders.add(at, order);
            settleForce();
        }

        private boolean comesBehind(Paper order, Paper other) {
            return order.known[number] == other.known[number] && order.number > other.number;
        }

        private void settleForce() {
            for (int i = 0; i < orders.size(); i++) {
                Paper order = orders.get(i);
                for (int k = 0; k < order.paragraphs.size(); k++) {
                    latestOrder[order.paragraphs.get(k).key] = i;
                }
            }
            inForce.clear();
            for (int i = 0; i < orders.size(); i++) {
                Paper order = orders.get(i);
                for (int k = 0; k < order.paragraphs.size(); k++) {
                    Paragraph paragraph = order.paragraphs.get(k);
                    if (latestOrder[paragraph.key] == i) {
                        inForce.add(paragraph);
                    }
                }
            }
        }
    }

    /** A paper of any kind. */
    private static class Paper {
        final int number;
        final int kind;
        final int from;
        final int to;
        final int written;
        final int[] known = new int[PLACES];
        /** STOCK where it was written, as it was then: what a report tells. */
        final int[] stockTold;
        final ArrayList<Paragraph> paragraphs = new ArrayList<>();
        /** Of an order its paragraphs, of an invoice the voyage, of a bill the amount. */
        int detail;
        int copies;

        Paper(int number, int kind, Place from, int to, int day) {
            this.number = number;
            this.kind = kind;
            this.from = from.number;
            this.to = to;
            this.written = day;
            this.stockTold = from.stock.clone();
            Arrays.fill(known, -1);
            known[from.number] = day;
        }

        final void comesAboard(Ship ship) {
            copies++;
            ship.copies[number]++;
        }
    }

    private static final class Bill extends Paper {
        int state = DRAWN;
        int due = -1;
        /** What was paid, or is owed by the factory. */
        int settled;

        Bill(int number, Place from, int day, int amount) {
            super(number, BILL, from, HOUSE, day);
            detail = amount;
        }

        boolean isOpen() {
            return state == DRAWN || state == ACCEPTED;
        }

        void settle(int newState, int day) {
            int months = (day - written) / MONTH;
            state = newState;
            settled = detail + detail * months / 100;
        }
    }

    private static final class Ship {
        final int number;
        final int owner;
        final int tons;
        int place = HOUSE;
        int comes = -1;
        boolean takenUp;
        int latestVoyage = -1;
        int bullion;
        final int[] bales = new int[SORTS];
        final int[] privateTons = new int[PERSONS];
        /** By papers, how many copies of each are aboard. */
        final int[] copies = new int[PAPERS];

        Ship(int number, int owner, int tons) {
            this.number = number;
            this.owner = owner;
            this.tons = tons;
        }

        int freeTons() {
            return tons - sumOf(bales) - sumOf(privateTons);
        }

        void clearHold() {
            bullion = 0;
            Arrays.fill(bales, 0);
            Arrays.fill(privateTons, 0);
        }
    }

    private static final class Voyage {
        final int number;
        final int ship;
        final int from;
        final int to;
        final int left;
        final int comes;
        final int[] bales;
        /** The house's count, what came until it is told otherwise. */
        final int[] counted;
        boolean toldLost;
        int end = ON_SEA;
        int invoice = -1;
        int beyond;

        Voyage(int number, Ship ship, int to, int left, int comes) {
            this.number = number;
            this.ship = ship.number;
            this.from = ship.place;
            this.to = to;
            this.left = left;
            this.comes = comes;
            this.bales = ship.bales.clone();
            this.counted = ship.bales.clone();
        }

        int joined() {
            if (from == HOUSE) {
                return -1;
            }
            if (end != CAME) {
                return end == ON_SEA ? 1 : 2;
            }
            for (int sort = 0; sort < SORTS; sort++) {
                if (bales[sort] != counted[sort]) {
                    return 3;
                }
            }
            return 0;
        }
    }

    private static final class Paragraph {
        final int paper;
        final int index;
        final int act;
        final int sort;
        final int number;
        /** The same for paragraphs of the same act, and sort if it has one. */
        final int key;
        final ArrayList<Test> tests = new ArrayList<>();

        Paragraph(int paper, int index, int act, int sort, int number) {
            this.paper = paper;
            this.index = index;
            this.act = act;
            this.sort = sort;
            this.number = number;
            this.key = act * SORTS + Math.max(sort, 0);
        }
    }

    private static final class Test {
        final boolean afterOr;
        final boolean negated;
        final int field;
        final int sort;
        /** Below 0 for less, 0 for the same, above 0 for more. */
        final int sign;
        final int number;

        Test(boolean afterOr, boolean negated, int field, int sort, int sign, int number) {
            this.afterOr = afterOr;
            this.negated = negated;
            this.field = field;
            this.sort = sort;
            this.sign = sign;
            this.number = number;
        }

        boolean isMetBy(int value) {
            boolean met = sign < 0 ? value < number : sign > 0 ? value > number : value == number;
            return met != negated;
        }
    }

    /** THE TAPE, and the reading of an order from it byte by byte, up to the first fault. */
    private static final class Reader {
        private final int[] tape = new int[TAPE];
        int length;
        private int at;
        private int fault;

        boolean hasRoomFor(int n) {
            return n <= TAPE - length;
        }

        void append(int item) {
            if (length < TAPE) {
                tape[length] = item & 255;
                length++;
            }
        }

        /** Reads and empties THE TAPE: the place of the fault, or -1 and the order has its paragraphs. */
        int readInto(Paper order) {
            at = 0;
            fault = -1;
            for (int i = 0; i < PARAGRAPHS; i++) {
                readParagraph(order, i);
                if (i == PARAGRAPHS - 1 || !takes(';')) {
                    break;
                }
            }
            if (at < length) {
                fail();
            }
            length = 0;
            return fault;
        }

        private void readParagraph(Paper order, int index) {
            int act = readAct();
            int sort = -1;
            if (act == BUY || act == ADVANCE || act == LADE) {
                sort = readSort();
                expect(" ");
            }
            Paragraph paragraph = new Paragraph(order.number, index, act, sort, readNumber());
            if (takes(' ')) {
                expect("if ");
                readTests(paragraph);
            }
            if (fault < 0) {
                order.paragraphs.add(paragraph);
            }
        }

        private int readAct() {
            if (takes('b')) {
                expect("uy ");
                return BUY;
            }
            if (takes('a')) {
                expect("dvance ");
                return ADVANCE;
            }
            if (takes('l')) {
                expect("ade ");
                return LADE;
            }
            if (takes('s')) {
                expect("ail ");
                return SAIL;
            }
            if (takes('d')) {
                expect("raw ");
                return DRAW;
            }
            expect("keep ");
            return KEEP;
        }

        private void readTests(Paragraph paragraph) {
            boolean afterOr = false;
            for (int i = 0; i < TESTS; i++) {
                paragraph.tests.add(readTest(afterOr));
                if (i == TESTS - 1 || !takes(' ')) {
                    break;
                }
                afterOr = takes('o');
                expect(afterOr ? "r " : "and ");
            }
        }

        private Test readTest(boolean afterOr) {
            boolean negated = takes('n');
            if (negated) {
                expect("ot ");
            }
            int field = readField();
            int sort = field == PRICE_FIELD || field == STOCK_FIELD ? readSort() : -1;
            int sign = readSign();
            return new Test(afterOr, negated, field, sort, sign, readNumber());
        }

        private int readField() {
            if (takes('p')) {
                expect("rice");
                return PRICE_FIELD;
            }
            if (takes('b')) {
                expect("ullion");
                return BULLION_FIELD;
            }
            if (takes('s')) {
                boolean stock = takes('t');
                expect(stock ? "ock" : "hips");
                return stock ? STOCK_FIELD : SHIPS_FIELD;
            }
            expect("day");
            return DAY_FIELD;
        }

        private int readSign() {
            if (takes('<')) {
                return -1;
            }
            if (takes('>')) {
                return 1;
            }
            expect("=");
            return 0;
        }

        private int readSort() {
            for (int sort = 0; sort < SORTS; sort++) {
                if (takes('0' + sort)) {
                    return sort;
                }
            }
            fail();
            return 0;
        }

        private int readNumber() {
            int number = 0;
            int digits = 0;
            while (digits < DIGITS && isDigitNext()) {
                number = 10 * number + tape[at] - '0';
                at++;
                digits++;
            }
            if (digits == 0) {
                fail();
            }
            return number;
        }

        private boolean isDigitNext() {
            return fault < 0 && at < length && tape[at] >= '0' && tape[at] <= '9';
        }

        /** Goes behind the next byte if it is this one; never behind a fault. */
        private boolean takes(int sign) {
            boolean next = fault < 0 && at < length && tape[at] == sign;
            if (next) {
                at++;
            }
            return next;
        }

        private void expect(String word) {
            for (int i = 0; i < word.length(); i++) {
                if (!takes(word.charAt(i))) {
                    fail();
                }
            }
        }

        private void fail() {
            if (fault < 0) {
                fault = at;
            }
        }
    }

    /** What buyers want, bought and paid. */
    private static final class Market {
        final int[][] wanted = new int[BUYERS][SORTS];
        final int[][] limit = new int[BUYERS][SORTS];
        final int[] boughtBy = new int[BUYERS];
        final int[] paidBy = new int[BUYERS];
        int coins;

        /** The buyer but one that wants still, up to the greatest limit; -1 none. */
        int greatest(int sort, int but) {
            int found = -1;
            for (int buyer = 0; buyer < BUYERS; buyer++) {
                boolean wants = buyer != but && wanted[buyer][sort] > 0;
                if (wants && (found < 0 || limit[buyer][sort] > limit[found][sort])) {
                    found = buyer;
                }
            }
            return found;
        }

        int sellOne(int sort, int buyer) {
            int other = greatest(sort, buyer);
            int price = other < 0 ? 0 : limit[other][sort];
            wanted[buyer][sort]--;
            boughtBy[buyer]++;
            paidBy[buyer] += price;
            return price;
        }
    }

    /** The bodies of acts, and the trace of those that ran in the latest one. */
    private static final class Acts {
        final int[] bodies = new int[TRACED];
        int ran;

        void begin() {
            ran = 0;
        }

        /** Runs the act's body of a kind, or of the next kind above that has one. */
        private int run(Paper paper, int kind, int act, int x, int depth) {
            int owner = kindWithBody(kind, act);
            if (owner < 0 || depth > DEEPEST) {
                return 0;
            }
            int body = BODIES[owner * ACTS + act];
            int above = ABOVE[owner];
            int deeper = depth + 1;
            begins(body);
            switch (body) {
                case 10: return x + paper.number;
                case 11: return run(paper, paper.kind, BINDS, x, deeper) * 2;
                case 12: return run(paper, paper.kind, TRAVELS, x, deeper)
                        ^ run(paper, paper.kind, BINDS, x + paper.written, deeper);
                case 20: return run(paper, above, TRAVELS, x, deeper) - paper.number;
                case 30: return run(paper, above, BINDS, x, deeper) * 3;
                case 40: return run(paper, above, OWES, x - 1, deeper);
                case 50: return run(paper, above, OWES, x, deeper) + paper.number;
                case 60: return run(paper, above, TRAVELS, x, deeper) ^ 9;
                case 61: return run(paper, above, OWES, x, deeper) * 2;
                default: return run(paper, above, BINDS, x, deeper) - paper.written;
            }
        }

        private static int kindWithBody(int kind, int act) {
            int at = kind;
            for (int i = 0; i < KINDS && at >= 0 && at < KINDS; i++) {
                if (BODIES[at * ACTS + act] != 0) {
                    return at;
                }
                at = ABOVE[at];
            }
            return -1;
        }

        private void begins(int body) {
            if (ran < TRACED) {
                bodies[ran] = body;
            }
            ran++;
        }
    }

    /** A row of bytes, shorts or ints, or missing. */
    private static final class Sheet {
        int sort = -1;
        private int length;
        final int[] items = new int[SHEET_ITEMS];

        boolean isMissing() {
            return sort < 0;
        }

        void become(int newSort, int newLength) {
            sort = newSort;
            length = newLength;
            Arrays.fill(items, 0);
        }

        boolean has(int i, int n) {
            return i >= 0 && n >= 0 && i <= length - n;
        }

        void put(int i, int v) {
            if (sort == BYTES) {
                items[i] = (byte) v;
            } else if (sort == SHORTS) {
                items[i] = (short) v;
            } else {
                items[i] = v;
            }
        }
    }
}
