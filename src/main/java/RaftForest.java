import java.util.Arrays;

/**
 * Rafts of one forest: a river, its villages and its logs, told as texts, with the rules by which the logs float,
 * jam, are taken, added, elected and owned. The words in capitals are those of the document.
 *
 * <p>No call makes an object: every row that a call needs is made here by the constructors and used again.
 */
public final class RaftForest {

    public static final int NONE = -1;

    private static final int REFUSED = -2;
    private static final int NOT_OF_VILLAGES = -1000000;

    private static final int MOST_BYTES = 400;
    private static final int MOST_DIGITS = 5;
    private static final int MOST_BENDS = 9;
    private static final int MOST_VILLAGES = 6;
    private static final int MOST_WOODS = 4;
    private static final int MOST_LOGS = 12;
    private static final int MOST_NOTCHES = 6;
    private static final int MOST_RULES = 6;
    private static final int MOST_DAMS = 3;
    private static final int MOST_WEDDINGS = 20;
    private static final int MOST_SIGHTS = 20;
    private static final int MOST_CUTS = 12;
    private static final int MOST_IMAGES = 4;
    private static final int MOST_DAYS = 60;
    private static final int MOST_LET_AHEAD = 6;
    private static final int DAYS_KEPT = 30;
    private static final int LAST_DAY = 9999;
    private static final int HIGHEST_WATER = 999;
    /** The most that x can be, and that any number can. */
    private static final int LARGEST = 2147483647;

    /** Where a LOG is: below ASHORE in the WATER at that BEND, from ASHORE on at a VILLAGE. */
    private static final int ASHORE = 20;
    private static final int SOLD = 40;
    private static final int BURNT = 41;

    /** What a FAULT is, the least first. */
    private static final int CANNOT_STAND = 0;
    private static final int WRONG_NUMBER = 1;
    private static final int TOO_DEEP = 2;
    private static final int ITEM_TOO_MANY = 3;
    private static final int CLAUSE_TOO_MANY = 4;

    private static final int MOST_RIVER_CLAUSES = 40;
    private static final String RIVER_CLAUSES = "river village width wood log toll";
    private static final int TELLS_RIVER = 0;
    private static final int TELLS_VILLAGE = 1;
    private static final int TELLS_WIDTH = 2;
    private static final int TELLS_WOOD = 3;
    private static final int TELLS_LOG = 4;
    private static final int TELLS_TOLL = 5;

    private static final int MOST_RULE_CLAUSES = 12;
    private static final String RULE_CLAUSES = "jam take add elect mine";
    private static final int JAM = 0;
    private static final int TAKE = 1;
    private static final int ADD = 2;
    private static final int ELECT = 3;
    private static final int MINE = 4;

    private static final String VALUE_WORDS =
            "log wood length rings bend village owner felled last notches room water day";
    private static final int VALUE_WORD_COUNT = 13;
    private static final int OWNER_WORD = 6;
    private static final int ROOM_WORD = 10;

    /** What the WORDS village, owner, felled and last tell where there is none. */
    private static final int NOBODY = 9;

    /** What is tallied of DAYS that pass: the numbers of floats. */
    private static final int JAMS = 0;
    private static final int LOGS_SOLD = 1;
    private static final int COINS = 2;
    private static final int LOGS_TAKEN = 3;
    private static final int LOGS_ADDED = 4;
    private static final int NOTCHES_FADED = 5;
    private static final int TALLIES = 6;

    private final Tape tape;
    private final RiverReader riverReader;
    private final RuleReader ruleReader;
    private final Rule[] rules;
    private int ruleCount;
    private final World now;
    /** What would be: it shares the RIVER with now, and its books are never read. */
    private final World trial;
    private final Image[] images;
    /** Rows that questions reckon in. */
    private final int[] row;
    private final int[] rowPlaces;
    private final int[] bestRow;
    /** Of sets of VILLAGES; of the empty one it stays 0. */
    private final int[] groups;

    public RaftForest() {
        tape = new Tape();
        riverReader = new RiverReader(tape);
        ruleReader = new RuleReader(tape);
        rules = new Rule[MOST_RULES];
        for (int i = 0; i < MOST_RULES; i++) {
            rules[i] = new Rule();
        }
        now = new World(new River(), rules);
        trial = new World(now.river, rules);
        images = new Image[MOST_IMAGES];
        for (int i = 0; i < MOST_IMAGES; i++) {
            images[i] = new Image();
        }
        row = new int[MOST_LET_AHEAD];
        rowPlaces = new int[MOST_LET_AHEAD];
        bestRow = new int[MOST_LET_AHEAD];
        groups = new int[1 << MOST_VILLAGES];
    }

    // ---- texts

    public int feed(int a, int b, int c, int d, int e) {
        if (tape.size + 20 > MOST_BYTES) {
            return NONE;
        }
        tape.append(a);
        tape.append(b);
        tape.append(c);
        tape.append(d);
        tape.append(e);
        return tape.size;
    }

    public int end(int n) {
        if (n < 0 || n > tape.size) {
            return NONE;
        }
        tape.size = n;
        return n;
    }

    public int river() {
        boolean told = riverReader.reads();
        tape.size = 0;
        if (!told) {
            return REFUSED - tape.fault;
        }
        now.river.copy(riverReader.told);
        now.state.start(now.river);
        now.books.start();
        return now.river.logs;
    }

    public int rule() {
        if (ruleCount >= MOST_RULES) {
            return NONE;
        }
        boolean told = ruleReader.reads(rules[ruleCount]);
        tape.size = 0;
        if (!told) {
            return REFUSED - tape.fault;
        }
        ruleCount++;
        return ruleCount - 1;
    }

    // ---- which RULES bind

    public int force(int rule) {
        if (!hasRiver() || !isRuleOrNone(rule)) {
            return REFUSED;
        }
        int before = now.state.ruleInForce;
        now.state.ruleInForce = rule;
        return before;
    }

    public int bind(int village, int rule) {
        if (!isVillage(village) || !isRuleOrNone(rule)) {
            return REFUSED;
        }
        int before = now.state.villageRules[village];
        now.state.villageRules[village] = rule;
        return before;
    }

    public int law(int law, int rule) {
        if (!hasRiver() || law < 0 || law > 3) {
            return REFUSED;
        }
        if (law == 3) {
            if (!isRule(rule)) {
                return REFUSED;
            }
            now.state.lawRule = rule;
        }
        int before = now.state.law;
        now.state.law = law;
        return before;
    }

    // ---- what there is

    public int bend(int bend, int what) {
        if (!isBend(bend)) {
            return NONE;
        }
        switch (what) {
            case 0:
                return now.river.widths[bend];
            case 1:
                return now.state.dams[bend];
            case 2:
                return now.logsAt(bend);
            case 3:
                return now.roomAt(bend);
            default:
                return NONE;
        }
    }

    public int village(int village, int what) {
        if (!isVillage(village)) {
            return NOT_OF_VILLAGES;
        }
        switch (what) {
            case 0:
                return now.river.villageBends[village];
            case 1:
                return now.state.villageRules[village];
            case 2:
                return now.books.coins[village];
            case 3:
                return now.logsAt(ASHORE + village);
            case 4:
                return now.logsOf(village);
            case 5:
                return now.books.net(village);
            default:
                return NOT_OF_VILLAGES;
        }
    }

    public int log(int log, int what) {
        if (!isLog(log)) {
            return REFUSED;
        }
        State state = now.state;
        switch (what) {
            case 0:
                return now.river.logWoods[log];
            case 1:
                return state.lengths[log];
            case 2:
                return now.river.logRings[log];
            case 3:
                return state.places[log];
            case 4:
                return state.notchCounts[log];
            case 5:
                return now.ownerOf(log);
            case 6:
                return now.priceOf(log);
            case 7:
                return state.jams[log];
            case 8:
                return state.jamDays[log];
            case 9:
                return state.placeInOrder(log);
            case 10:
                return now.books.weddingsOf(log);
            default:
                return REFUSED;
        }
    }

    public int notch(int log, int place) {
        if (!isLog(log)) {
            return REFUSED;
        }
        return now.state.notchAt(log, place);
    }

    // ---- NOTCHES BY HAND

    public int cut(int log, int village) {
        if (!isLog(log) || !isVillage(village) || !now.reaches(village, log)) {
            return REFUSED;
        }
        int count = now.state.notchCounts[log];
        if (count >= MOST_NOTCHES) {
            return REFUSED;
        }
        now.state.notchBehind(log, village);
        now.books.keepCut(log, count, village, NONE);
        return count + 1;
    }

    public int cutOver(int log, int place, int village) {
        if (!isLog(log) || !isVillage(village) || !now.reaches(village, log)) {
            return REFUSED;
        }
        int before = now.state.notchAt(log, place);
        if (before == NONE || before == village) {
            return REFUSED;
        }
        now.state.notches[log * MOST_NOTCHES + place] = village;
        now.books.keepCut(log, place, village, before);
        return before;
    }

    public int undo() {
        Books books = now.books;
        int last = books.cutCount - 1;
        if (last < 0) {
            return REFUSED;
        }
        int log = books.cutLogs[last];
        int place = books.cutPlaces[last];
        int before = books.cutBefore[last];
        if (now.state.notchAt(log, place) != books.cutVillages[last]) {
            return REFUSED;
        }
        if (before != NONE) {
            now.state.notches[log * MOST_NOTCHES + place] = before;
        } else if (place == now.state.notchCounts[log] - 1) {
            now.state.notchCounts[log] = place;
        } else {
            return REFUSED;
        }
        books.cutCount = last;
        return log;
    }

    // ---- LOGS and the ORDER by hand

    public int launch(int log) {
        if (!isLog(log) || !now.state.isAshore(log)) {
            return REFUSED;
        }
        int bend = now.bendOf(log);
        if (now.roomAt(bend) < 1) {
            return REFUSED;
        }
        now.state.places[log] = bend;
        return bend;
    }

    public boolean land(int log, int village) {
        if (!isLog(log) || !isVillage(village) || now.state.places[log] != now.river.villageBends[village]) {
            return false;
        }
        now.state.places[log] = ASHORE + village;
        return true;
    }

    public int burn(int log) {
        if (!isLog(log) || !now.state.isAshore(log)) {
            return REFUSED;
        }
        int price = now.priceOf(log);
        now.books.owe(now.state.places[log] - ASHORE, now.ownerOf(log), price);
        now.state.places[log] = BURNT;
        return price;
    }

    public int saw(int log, int n) {
        if (!isLog(log) || now.state.isGone(log) || n < 1 || n >= now.state.lengths[log]) {
            return REFUSED;
        }
        now.state.lengths[log] -= n;
        return now.state.lengths[log];
    }

    public int ahead(int log, int place) {
        if (!isLog(log) || !isLog(place)) {
            return REFUSED;
        }
        int[] order = now.state.order;
        int was = now.state.placeInOrder(log);
        for (int i = was; i > place; i--) {
            order[i] = order[i - 1];
        }
        for (int i = was; i < place; i++) {
            order[i] = order[i + 1];
        }
        order[place] = log;
        return was;
    }

    // ---- DAMS, FLOODS, WEDDINGS, WINTER, DAYS

    public int dam(int bend) {
        if (!isBend(bend) || now.state.dams[bend] >= MOST_DAMS) {
            return REFUSED;
        }
        now.state.dams[bend]++;
        return now.state.dams[bend];
    }

    public int appeal(int bend) {
        if (!isBend(bend) || now.state.dams[bend] < 1) {
            return REFUSED;
        }
        if (Integer.bitCount(now.tearing(bend)) <= Integer.bitCount(now.keeping(bend))) {
            return 0;
        }
        now.state.dams[bend]--;
        return 1;
    }

    public int votes(int bend, int what) {
        if (!isBend(bend) || what < 0 || what > 1) {
            return NONE;
        }
        return what == 0 ? now.tearing(bend) : now.keeping(bend);
    }

    public int flood(int n) {
        if (!hasRiver() || n < 0 || n > 99) {
            return REFUSED;
        }
        now.rise(n);
        return now.state.water;
    }

    public int elected(int place) {
        if (!isLog(place)) {
            return NONE;
        }
        trial.begin(now);
        trial.rise(0);
        return trial.state.order[place];
    }

    public int wedding(int village) {
        Books books = now.books;
        if (!isVillage(village) || books.weddings >= MOST_WEDDINGS) {
            return REFUSED;
        }
        int beams = now.logsAt(ASHORE + village);
        books.beams[books.weddings] = beams;
        books.weddings++;
        return beams;
    }

    public int winter(int n) {
        if (!hasRiver() || n < 0 || n > 99999) {
            return REFUSED;
        }
        return now.books.writeOff(n);
    }

    public int days(int n) {
        if (!hasRiver() || n < 1 || n > MOST_DAYS || now.state.day + n > LAST_DAY) {
            return REFUSED;
        }
        for (int i = 0; i < n; i++) {
            now.passDay();
            now.books.keepPlaces(now.state);
        }
        return now.state.day;
    }

    // ---- what would be

    public int floats(int n, int what) {
        if (!hasRiver() || n < 0 || n > MOST_DAYS || what < 0 || what >= TALLIES) {
            return NONE;
        }
        trial.begin(now);
        for (int i = 0; i < n; i++) {
            trial.passDay();
        }
        return trial.tally[what];
    }

    public int letAhead(int n, int what) {
        if (!hasRiver() || n < 0 || n > 20 || what < 0 || what > MOST_LET_AHEAD) {
            return NONE;
        }
        int size = takeRow();
        if (size > MOST_LET_AHEAD) {
            return NONE;
        }
        if (what > size) {
            return REFUSED;
        }
        int fewest = LARGEST;
        boolean more = true;
        // 6 LOGS stand in 720 rows at most, and nothing is below 0 JAMS
        for (int rows = 0; rows < 720 && more && fewest > 0; rows++) {
            trial.begin(now);
            for (int i = 0; i < size; i++) {
                trial.state.order[rowPlaces[i]] = row[i];
            }
            for (int i = 0; i < n && trial.tally[JAMS] < fewest; i++) {
                trial.passDay();
            }
            if (trial.tally[JAMS] < fewest) {
                fewest = trial.tally[JAMS];
                System.arraycopy(row, 0, bestRow, 0, size);
            }
            more = nextRow(row, size);
        }
        return what == 0 ? fewest : bestRow[what - 1];
    }

    /** Takes the LOGS in the WATER, by numbers, and their places in the ORDER: how many there are. */
    private int takeRow() {
        int size = 0;
        int placeCount = 0;
        for (int i = 0; i < now.river.logs; i++) {
            if (now.state.isInWater(i)) {
                if (size < MOST_LET_AHEAD) {
                    row[size] = i;
                }
                size++;
            }
            if (now.state.isInWater(now.state.order[i])) {
                if (placeCount < MOST_LET_AHEAD) {
                    rowPlaces[placeCount] = i;
                }
                placeCount++;
            }
        }
        return size;
    }

    /** Turns a row of unlike numbers into the next one of all its orders: false if it was the last. */
    private static boolean nextRow(int[] row, int size) {
        int turn = size - 2;
        while (turn >= 0 && row[turn] > row[turn + 1]) {
            turn--;
        }
        if (turn < 0) {
            return false;
        }
        int other = size - 1;
        while (other > turn + 1 && row[other] < row[turn]) {
            other--;
        }
        swap(row, turn, other);
        for (int low = turn + 1, high = size - 1; low < high; low++, high--) {
            swap(row, low, high);
        }
        return true;
    }

    private static void swap(int[] row, int one, int other) {
        int kept = row[one];
        row[one] = row[other];
        row[other] = kept;
    }

    // ---- KIN

    public int kin(int one, int other) {
        if (!isLog(one) || !isLog(other)) {
            return NONE;
        }
        int reached = 1 << one;
        for (int steps = 0; steps < MOST_LOGS; steps++) {
            if ((reached >> other & 1) == 1) {
                return steps;
            }
            reached = now.books.kinOfAll(reached);
        }
        return REFUSED;
    }

    public int kinOf(int log) {
        if (!isLog(log)) {
            return NONE;
        }
        int reached = 1 << log;
        for (int steps = 0; steps < MOST_LOGS; steps++) {
            reached = now.books.kinOfAll(reached);
        }
        return reached;
    }

    // ---- what was

    public int was(int log, int ago) {
        if (!isLog(log) || ago < 1 || ago > now.daysKept()) {
            return REFUSED;
        }
        return now.placeAgo(log, ago);
    }

    public int wereAt(int log, int from, int to) {
        if (!areKept(log, from, to)) {
            return NONE;
        }
        return now.villagesSeen(log, from, to);
    }

    public int likely(int log, int from, int to, int village, int part) {
        if (!areKept(log, from, to) || !isVillage(village) || part < 0 || part > 1) {
            return NONE;
        }
        // a DAY is 60 shares, which 1 to 6 VILLAGES part without a rest
        int above = 0;
        int below = 60 * (from - to + 1);
        for (int ago = to; ago <= from; ago++) {
            int there = now.villagesAt(now.placeAgo(log, ago));
            int sharers = Integer.bitCount(there);
            if (sharers > 0 && (there >> village & 1) == 1) {
                above += 60 / sharers;
            }
        }
        int divisor = commonDivisor(below, above);
        if (divisor < 1) {
            return NONE;
        }
        return (part == 0 ? above : below) / divisor;
    }

    private static int commonDivisor(int one, int other) {
        int divisor = one;
        int rest = other;
        for (int i = 0; i < 64 && rest != 0; i++) {
            int next = divisor % rest;
            divisor = rest;
            rest = next;
        }
        return divisor;
    }

    private boolean areKept(int log, int from, int to) {
        return isLog(log) && to >= 1 && from >= to && from <= now.daysKept();
    }

    // ---- SIGHTS

    public int sight(int log, int place, int village) {
        if (log == NONE) {
            now.books.sights = 0;
            return 0;
        }
        if (!isLog(log) || place < 0 || place >= MOST_NOTCHES || village != NONE && !isVillage(village)
                || now.books.sights >= MOST_SIGHTS) {
            return REFUSED;
        }
        now.books.keepSight(log, place, village, now.state.day);
        return now.books.sights;
    }

    public int parted(int log, int place, int what) {
        if (!isLog(log) || place < 0 || place >= MOST_NOTCHES || what < 0 || what > 3) {
            return NONE;
        }
        Books books = now.books;
        int later = books.partedSight(log, place);
        int earlier = later == NONE ? NONE : books.sightAhead(later);
        if (earlier == NONE) {
            return REFUSED;
        }
        int earlierDay = books.sightDays[earlier];
        int laterDay = books.sightDays[later];
        switch (what) {
            case 0:
                return later;
            case 1:
                return earlierDay;
            case 2:
                return laterDay;
            default:
                // behind the DAY d there is the place that was kept when it became d + 1
                int from = Math.min(now.state.day - earlierDay, now.daysKept());
                return now.villagesSeen(log, from, now.state.day - laterDay + 1);
        }
    }

    // ---- debts

    public int owes(int one, int other) {
        if (!isVillage(one) || !isVillage(other) || one == other) {
            return NONE;
        }
        return now.books.debts[one * MOST_VILLAGES + other];
    }

    /** Each group of VILLAGES whose NETS are 0 together saves one payment: the most groups are sought. */
    public int payments() {
        if (!hasRiver()) {
            return NONE;
        }
        int villages = now.river.villages;
        for (int set = 1; set < 1 << villages; set++) {
            long sum = 0;
            int most = 0;
            for (int i = 0; i < villages; i++) {
                if ((set >> i & 1) == 1) {
                    sum += now.books.net(i);
                    most = Math.max(most, groups[set ^ 1 << i]);
                }
            }
            groups[set] = sum == 0 ? most + 1 : most;
        }
        return villages - groups[(1 << villages) - 1];
    }

    public int repaid(int one, int other, int what) {
        if (!isVillage(one) || !isVillage(other) || one == other || what < 0 || what > 1) {
            return NONE;
        }
        int debt = now.books.debts[one * MOST_VILLAGES + other];
        int hers = now.logsAt(ASHORE + one) & now.logsOf(one);
        int best = NONE;
        int bestSum = 0;
        int set = 0;
        // sets of hers from the least on, so that of those alike the first stays
        for (int sets = 0; sets < 1 << MOST_LOGS; sets++) {
            int sum = now.priceOfSet(set);
            if (sum >= debt && (best == NONE || sum < bestSum
                    || sum == bestSum && Integer.bitCount(set) < Integer.bitCount(best))) {
                best = set;
                bestSum = sum;
            }
            if (set == hers) {
                break;
            }
            set = set - hers & hers;
        }
        if (best == NONE) {
            return REFUSED;
        }
        return what == 0 ? bestSum : best;
    }

    // ---- DRAWS

    public int seed(int x) {
        if (x < 0) {
            return NONE;
        }
        int before = now.books.seed;
        now.books.seed = x;
        return before;
    }

    public int drawn(int m, int n, int p, int what) {
        if (!hasRiver() || m < 1 || m > 10 || n < 1 || n > MOST_DAYS || p < 0 || p > 100 || what < 0 || what > 2) {
            return NONE;
        }
        int x = now.books.seed;
        int jams = 0;
        int coins = 0;
        int floods = 0;
        for (int time = 0; time < m; time++) {
            trial.begin(now);
            for (int day = 0; day < n; day++) {
                x = nextDrawn(x);
                if (x / 65536 % 100 < p) {
                    x = nextDrawn(x);
                    trial.rise(x / 65536 % 10);
                    floods++;
                }
                trial.passDay();
            }
            jams += trial.tally[JAMS];
            coins += trial.tally[COINS];
        }
        return what == 0 ? jams : what == 1 ? coins : floods;
    }

    private static int nextDrawn(int x) {
        return (int) (x * 1103515245L + 12345L & LARGEST);
    }

    // ---- counts and IMAGES

    public int count(int what) {
        switch (what) {
            case 0:
                return now.river.bends;
            case 1:
                return now.river.villages;
            case 2:
                return now.river.woods;
            case 3:
                return now.river.logs;
            case 4:
                return ruleCount;
            case 5:
                return now.state.ruleInForce;
            case 6:
                return now.state.law;
            case 7:
                return now.state.day;
            case 8:
                return now.state.water;
            case 9:
                return now.state.logsBetween(0, ASHORE);
            case 10:
                return now.state.logsBetween(SOLD, BURNT);
            case 11:
                return now.state.logsBetween(BURNT, BURNT + 1);
            default:
                return countKept(what);
        }
    }

    private int countKept(int what) {
        switch (what) {
            case 12:
                return now.books.sea;
            case 13:
                return now.books.weddings;
            case 14:
                return now.books.sights;
            case 15:
                return now.books.cutCount;
            case 16:
                return now.state.jamsInAll();
            case 17:
                return now.books.seed;
            case 18:
                return tape.size;
            case 19:
                return now.river.toll;
            default:
                return NONE;
        }
    }

    public int image(int k) {
        if (k < 0 || k >= MOST_IMAGES) {
            return NONE;
        }
        images[k].take(now);
        return now.state.day;
    }

    public int back(int k) {
        if (k < 0 || k >= MOST_IMAGES || !images[k].made) {
            return NONE;
        }
        images[k].give(now);
        return now.state.day;
    }

    // ---- what is there at all

    private boolean hasRiver() {
        return now.river.bends > 0;
    }

    private boolean isBend(int number) {
        return number >= 0 && number < now.river.bends;
    }

    private boolean isVillage(int number) {
        return number >= 0 && number < now.river.villages;
    }

    /** The ORDER has as many places as there are LOGS, so this tells of a place of it, too. */
    private boolean isLog(int number) {
        return number >= 0 && number < now.river.logs;
    }

    private boolean isRule(int number) {
        return number >= 0 && number < ruleCount;
    }

    private boolean isRuleOrNone(int number) {
        return number == NONE || isRule(number);
    }

    private static void copyRow(int[] from, int[] to) {
        System.arraycopy(from, 0, to, 0, Math.min(from.length, to.length));
    }

    /** The TAPE, and the sign, word or number on it that stands next for a reader. */
    private static final class Tape {
        final int[] bytes = new int[MOST_BYTES];
        int size;
        /** Where what stands next begins, and where it ends. */
        private int at;
        private int stop;
        /** Its first byte; NONE at the end. */
        int first;
        /** The FAULT that was found; 0 as long as there is none. */
        int fault;

        void append(int number) {
            for (int shift = 24; shift >= 0 && size < MOST_BYTES; shift -= 8) {
                bytes[size] = number >>> shift & 255;
                size++;
            }
        }

        void rewind() {
            fault = 0;
            stop = 0;
            pass();
        }

        /** Goes on behind what stands next. */
        void pass() {
            at = stop;
            while (at < size && bytes[at] == ' ') {
                at++;
            }
            first = at < size ? bytes[at] : NONE;
            stop = at < size ? at + 1 : size;
            // which bytes go on behind the first one, and how far
            int low = 256;
            int high = 256;
            int limit = size;
            if (first == '<' || first == '>') {
                low = '=';
                high = '=';
                limit = at + 2;
            } else if (first >= 'a' && first <= 'z') {
                low = 'a';
                high = 'z';
            } else if (first >= '0' && first <= '9') {
                low = '0';
                high = '9';
            }
            while (stop < size && stop < limit && bytes[stop] >= low && bytes[stop] <= high) {
                stop++;
            }
        }

        /** Always false, so that a reader can end with it. */
        boolean fails(int kind) {
            fault = 1 + 8 * at + kind;
            return false;
        }

        boolean isNumber() {
            return first >= '0' && first <= '9';
        }

        /** The NUMBER that stands next; NONE if it has more digits than one may have. */
        int number() {
            if (stop - at > MOST_DIGITS) {
                return NONE;
            }
            int value = 0;
            for (int i = at; i < stop; i++) {
                value = value * 10 + bytes[i] - '0';
            }
            return value;
        }

        boolean isLong() {
            return stop - at > 1;
        }

        /** Which word of a list, parted by blanks, stands next; NONE if none of them does. */
        int wordIn(String list) {
            int letters = stop - at;
            int number = 0;
            int alike = 0;
            for (int i = 0; i <= list.length() && letters > 0; i++) {
                if (i == list.length() || list.charAt(i) == ' ') {
                    if (alike == letters) {
                        return number;
                    }
                    number++;
                    alike = 0;
                } else if (alike >= 0) {
                    alike = alike < letters && bytes[at + alike] == list.charAt(i) ? alike + 1 : NONE;
                }
            }
            return NONE;
        }

        boolean takesWord(String word) {
            if (wordIn(word) != 0) {
                return false;
            }
            pass();
            return true;
        }
    }

    /** The RIVER as it was told. */
    private static final class River {
        int bends;
        int villages;
        int woods;
        int logs;
        int toll;
        final int[] villageBends = new int[MOST_VILLAGES];
        final int[] widths = new int[MOST_BENDS];
        final int[] woodPrices = new int[MOST_WOODS];
        final int[] logWoods = new int[MOST_LOGS];
        final int[] logLengths = new int[MOST_LOGS];
        final int[] logRings = new int[MOST_LOGS];
        final int[] logVillages = new int[MOST_LOGS];

        void clear() {
            bends = 0;
            villages = 0;
            woods = 0;
            logs = 0;
            toll = 0;
            Arrays.fill(widths, 9);
        }

        void copy(River from) {
            bends = from.bends;
            villages = from.villages;
            woods = from.woods;
            logs = from.logs;
            toll = from.toll;
            copyRow(from.villageBends, villageBends);
            copyRow(from.widths, widths);
            copyRow(from.woodPrices, woodPrices);
            copyRow(from.logWoods, logWoods);
            copyRow(from.logLengths, logLengths);
            copyRow(from.logRings, logRings);
            copyRow(from.logVillages, logVillages);
        }
    }

    /** Reads the TAPE as a RIVER, aside, so that a FAULT leaves the one there was. */
    private static final class RiverReader {
        final River told = new River();
        private final Tape tape;
        private boolean tollTold;

        RiverReader(Tape tape) {
            this.tape = tape;
        }

        boolean reads() {
            told.clear();
            tollTold = false;
            tape.rewind();
            for (int clause = 0; clause <= MOST_RIVER_CLAUSES; clause++) {
                int kind = tape.wordIn(RIVER_CLAUSES);
                if (kind == NONE) {
                    return tape.fails(CANNOT_STAND);
                }
                if (clause == MOST_RIVER_CLAUSES || isTooMany(kind, clause)) {
                    return tape.fails(CLAUSE_TOO_MANY);
                }
                tape.pass();
                if (!readsClause(kind)) {
                    return false;
                }
                if (tape.first == NONE) {
                    return true;
                }
                if (tape.first != ';') {
                    return tape.fails(CANNOT_STAND);
                }
                tape.pass();
            }
            return false;
        }

        private boolean isTooMany(int kind, int clause) {
            if ((kind == TELLS_RIVER) != (clause == 0)) {
                return true;
            }
            switch (kind) {
                case TELLS_VILLAGE:
                    return told.villages >= MOST_VILLAGES;
                case TELLS_WOOD:
                    return told.woods >= MOST_WOODS;
                case TELLS_LOG:
                    return told.logs >= MOST_LOGS;
                case TELLS_TOLL:
                    return tollTold;
                default:
                    return false;
            }
        }

        private boolean readsClause(int kind) {
            switch (kind) {
                case TELLS_RIVER:
                    told.bends = readNumber(2, MOST_BENDS);
                    break;
                case TELLS_VILLAGE:
                    told.villageBends[told.villages] = readNumber(0, told.bends - 1);
                    told.villages++;
                    break;
                case TELLS_WIDTH:
                    int bend = readNumber(0, told.bends - 1);
                    int width = readNumber(1, 9);
                    if (bend != NONE) {
                        told.widths[bend] = width;
                    }
                    break;
                case TELLS_WOOD:
                    told.woodPrices[told.woods] = readNumber(1, 99);
                    told.woods++;
                    break;
                case TELLS_LOG:
                    told.logWoods[told.logs] = readNumber(0, told.woods - 1);
                    told.logLengths[told.logs] = readNumber(1, 99);
                    told.logRings[told.logs] = readNumber(1, 99);
                    told.logVillages[told.logs] = readNumber(0, told.villages - 1);
                    told.logs++;
                    break;
                default:
                    told.toll = readNumber(0, 9);
                    tollTold = true;
                    break;
            }
            return tape.fault == 0;
        }

        /** Reads a NUMBER; NONE, and a FAULT, if it is not as told; NONE, too, behind a FAULT, which stays. */
        private int readNumber(int low, int high) {
            if (tape.fault != 0) {
                return NONE;
            }
            int number = tape.isNumber() ? tape.number() : NONE;
            if (number >= low && number <= high) {
                tape.pass();
                return number;
            }
            tape.fails(tape.isNumber() ? WRONG_NUMBER : CANNOT_STAND);
            return NONE;
        }
    }

    /**
     * A RULE as a row of steps over a stack: a number n as -1 - n, a WORD as its number, signs behind what they join,
     * and ahead of each CLAUSE its kind and where the next one begins.
     */
    private static final class Rule {
        static final int PLUS = 16;
        static final int MINUS = 17;
        static final int TIMES = 18;
        static final int OVER = 19;
        static final int REST = 20;
        static final int BELOW = 21;
        static final int AT_MOST = 22;
        static final int EQUAL = 23;
        static final int AT_LEAST = 24;
        static final int ABOVE = 25;
        static final int AND = 26;
        static final int OR = 27;
        static final int NOT = 28;
        /** Ends of CLAUSES: of a TEST; of a SUM; of a SUM and its TEST. */
        static final int HOLDS = 29;
        static final int GIVES = 30;
        static final int GIVES_IF = 31;
        static final int CLAUSE = 32;

        static final int MOST_ITEMS = 60;

        /** No step stands for less than a byte of the text, so its length is enough. */
        private final int[] steps = new int[MOST_BYTES];
        private int size;
        /** Which kinds of CLAUSE and which WORDS stand in it, as bits: what is dear is told only where it is asked. */
        private int kinds;
        private int words;
        private final long[] stack = new long[MOST_ITEMS];
        /** The SUM of the CLAUSE that was found last. */
        long sum;

        void clear() {
            size = 0;
            kinds = 0;
            words = 0;
        }

        void write(int step) {
            if (size < MOST_BYTES) {
                steps[size] = step;
                size++;
            }
            if (step >= 0 && step < VALUE_WORD_COUNT) {
                words |= 1 << step;
            }
        }

        /** Begins a CLAUSE: the place at which its end is to be told. */
        int begin(int kind) {
            kinds |= 1 << kind;
            write(CLAUSE + kind);
            write(0);
            return size - 1;
        }

        void close(int begun) {
            if (begun >= 0 && begun < size) {
                steps[begun] = size;
            }
        }

        boolean hasKind(int kind) {
            return (kinds >> kind & 1) == 1;
        }

        boolean hasWord(int word) {
            return (words >> word & 1) == 1;
        }

        /** Whether a CLAUSE of a kind holds, or gives a SUM: the first one that does. */
        boolean finds(int kind, long[] told) {
            int top = 0;
            int at = 0;
            // each turn goes on by one step at least
            for (int turns = 0; turns < MOST_BYTES && at >= 0 && at < size; turns++) {
                int step = steps[at];
                at++;
                if (step >= CLAUSE) {
                    top = 0;
                    at = at < size && step - CLAUSE != kind ? steps[at] : at + 1;
                } else if (step < VALUE_WORD_COUNT) {
                    if (top < MOST_ITEMS) {
                        stack[top] = step < 0 ? -1L - step : told[step];
                        top++;
                    }
                } else if (top < 1) {
                    return false;
                } else if (step == NOT) {
                    stack[top - 1] = 1 - stack[top - 1];
                } else if (step == GIVES || step == HOLDS || step == GIVES_IF) {
                    if (step == GIVES || stack[top - 1] == 1) {
                        sum = stack[0];
                        return true;
                    }
                } else if (top > 1) {
                    top--;
                    stack[top - 1] = joined(step, stack[top - 1], stack[top]);
                }
            }
            return false;
        }

        private static long joined(int step, long one, long other) {
            switch (step) {
                case PLUS:
                    return one + other;
                case MINUS:
                    return one - other;
                case TIMES:
                    return one * other;
                case OVER:
                    return other == 0 ? 0 : one / other;
                case REST:
                    return other == 0 ? 0 : one % other;
                case BELOW:
                    return one < other ? 1 : 0;
                case AT_MOST:
                    return one <= other ? 1 : 0;
                case EQUAL:
                    return one == other ? 1 : 0;
                case AT_LEAST:
                    return one >= other ? 1 : 0;
                case ABOVE:
                    return one > other ? 1 : 0;
                case AND:
                    return one & other;
                default:
                    return one | other;
            }
        }
    }

    /** Reads the TAPE as a RULE. */
    private static final class RuleReader {
        private static final int DEEPEST = 10;

        private final Tape tape;
        /** VALUES and FACTS so far. */
        private int items;

        RuleReader(Tape tape) {
            this.tape = tape;
        }

        boolean reads(Rule rule) {
            rule.clear();
            items = 0;
            tape.rewind();
            for (int clause = 0; clause <= MOST_RULE_CLAUSES; clause++) {
                int kind = tape.wordIn(RULE_CLAUSES);
                if (kind == NONE) {
                    return tape.fails(CANNOT_STAND);
                }
                if (clause == MOST_RULE_CLAUSES) {
                    return tape.fails(CLAUSE_TOO_MANY);
                }
                tape.pass();
                int begun = rule.begin(kind);
                boolean sums = kind == ELECT || kind == MINE;
                if (sums && !readsSum(rule)) {
                    return false;
                }
                boolean tests = !sums || tape.takesWord("if");
                if (tests && !readsTest(rule, 0)) {
                    return false;
                }
                rule.write(!sums ? Rule.HOLDS : tests ? Rule.GIVES_IF : Rule.GIVES);
                rule.close(begun);
                if (tape.first == NONE) {
                    return true;
                }
                if (tape.first != ';') {
                    return tape.fails(CANNOT_STAND);
                }
                tape.pass();
            }
            return false;
        }

        private boolean readsTest(Rule rule, int depth) {
            boolean joinsFacts = false;
            boolean joinsParts = false;
            for (int facts = 0; facts < Rule.MOST_ITEMS; facts++) {
                if (!readsFact(rule, depth)) {
                    return false;
                }
                if (joinsFacts) {
                    rule.write(Rule.AND);
                }
                joinsFacts = tape.takesWord("and");
                if (joinsFacts) {
                    continue;
                }
                // here a PART ends, and with it what waits for its end
                if (joinsParts) {
                    rule.write(Rule.OR);
                }
                joinsParts = tape.takesWord("or");
                if (!joinsParts) {
                    return true;
                }
            }
            return tape.fails(CANNOT_STAND);
        }

        private boolean readsFact(Rule rule, int depth) {
            boolean opens = tape.first == '[';
            boolean denies = tape.wordIn("not") == 0;
            if (!opens && !denies) {
                if (!readsSum(rule)) {
                    return false;
                }
                int sign = readSign();
                if (sign == NONE || !readsSum(rule)) {
                    return false;
                }
                rule.write(sign);
                return true;
            }
            if (depth >= DEEPEST) {
                return tape.fails(TOO_DEEP);
            }
            tape.pass();
            if (denies) {
                if (!readsFact(rule, depth + 1)) {
                    return false;
                }
                rule.write(Rule.NOT);
                return true;
            }
            if (!readsTest(rule, depth + 1)) {
                return false;
            }
            if (tape.first != ']') {
                return tape.fails(CANNOT_STAND);
            }
            tape.pass();
            return true;
        }

        /** Reads the SIGN that makes a FACT of two SUMS: its step; NONE, and a FAULT, without it. */
        private int readSign() {
            int step = NONE;
            if (tape.first == '<') {
                step = tape.isLong() ? Rule.AT_MOST : Rule.BELOW;
            } else if (tape.first == '>') {
                step = tape.isLong() ? Rule.AT_LEAST : Rule.ABOVE;
            } else if (tape.first == '=') {
                step = Rule.EQUAL;
            }
            if (step == NONE || items >= Rule.MOST_ITEMS) {
                tape.fails(step == NONE ? CANNOT_STAND : ITEM_TOO_MANY);
                return NONE;
            }
            items++;
            tape.pass();
            return step;
        }

        private boolean readsSum(Rule rule) {
            int joinsValues = NONE;
            int joinsTerms = NONE;
            for (int values = 0; values < Rule.MOST_ITEMS + 1; values++) {
                if (!readsValue(rule)) {
                    return false;
                }
                if (joinsValues != NONE) {
                    rule.write(joinsValues);
                }
                joinsValues = tape.first == '*' ? Rule.TIMES : tape.first == '/' ? Rule.OVER
                        : tape.first == '%' ? Rule.REST : NONE;
                if (joinsValues == NONE) {
                    // here a TERM ends, and with it what waits for its end
                    if (joinsTerms != NONE) {
                        rule.write(joinsTerms);
                    }
                    joinsTerms = tape.first == '+' ? Rule.PLUS : tape.first == '-' ? Rule.MINUS : NONE;
                    if (joinsTerms == NONE) {
                        return true;
                    }
                }
                tape.pass();
            }
            return tape.fails(CANNOT_STAND);
        }

        private boolean readsValue(Rule rule) {
            int step;
            if (tape.isNumber()) {
                int number = tape.number();
                if (number == NONE) {
                    return tape.fails(WRONG_NUMBER);
                }
                step = -1 - number;
            } else {
                step = tape.wordIn(VALUE_WORDS);
                if (step == NONE) {
                    return tape.fails(CANNOT_STAND);
                }
            }
            if (items >= Rule.MOST_ITEMS) {
                return tape.fails(ITEM_TOO_MANY);
            }
            items++;
            tape.pass();
            rule.write(step);
            return true;
        }
    }

    /** How LOGS, BENDS and RULES stand: all that DAYS and RULES look at, and nothing else. */
    private static final class State {
        int day;
        int water;
        int ruleInForce = NONE;
        int law;
        /** A number of a RULE in any LAW, so that it can be looked up untested. */
        int lawRule;
        private int logs;
        final int[] villageRules = new int[MOST_VILLAGES];
        final int[] dams = new int[MOST_BENDS];
        final int[] places = new int[MOST_LOGS];
        final int[] lengths = new int[MOST_LOGS];
        final int[] jams = new int[MOST_LOGS];
        final int[] jamDays = new int[MOST_LOGS];
        final int[] order = new int[MOST_LOGS];
        final int[] notchCounts = new int[MOST_LOGS];
        /** MOST_NOTCHES of each LOG, of which its count stand there. */
        final int[] notches = new int[MOST_LOGS * MOST_NOTCHES];

        void start(River river) {
            day = 0;
            water = 50;
            ruleInForce = NONE;
            law = 0;
            lawRule = 0;
            logs = river.logs;
            Arrays.fill(villageRules, NONE);
            Arrays.fill(dams, 0);
            Arrays.fill(jams, 0);
            Arrays.fill(jamDays, 0);
            copyRow(river.logLengths, lengths);
            for (int log = 0; log < logs; log++) {
                places[log] = ASHORE + river.logVillages[log];
                order[log] = log;
                notchCounts[log] = 0;
                notchBehind(log, river.logVillages[log]);
            }
        }

        void copy(State from) {
            day = from.day;
            water = from.water;
            ruleInForce = from.ruleInForce;
            law = from.law;
            lawRule = from.lawRule;
            logs = from.logs;
            copyRow(from.villageRules, villageRules);
            copyRow(from.dams, dams);
            copyRow(from.places, places);
            copyRow(from.lengths, lengths);
            copyRow(from.jams, jams);
            copyRow(from.jamDays, jamDays);
            copyRow(from.order, order);
            copyRow(from.notchCounts, notchCounts);
            copyRow(from.notches, notches);
        }

        boolean isInWater(int log) {
            return places[log] < ASHORE;
        }

        boolean isAshore(int log) {
            return places[log] >= ASHORE && places[log] < SOLD;
        }

        boolean isGone(int log) {
            return places[log] >= SOLD;
        }

        /** How many LOGS are at places from one on and below another one. */
        int logsBetween(int from, int to) {
            int count = 0;
            for (int log = 0; log < logs; log++) {
                if (places[log] >= from && places[log] < to) {
                    count++;
                }
            }
            return count;
        }

        int jamsInAll() {
            int all = 0;
            for (int log = 0; log < logs; log++) {
                all += jams[log];
            }
            return all;
        }

        int placeInOrder(int log) {
            int place = 0;
            while (place < logs - 1 && order[place] != log) {
                place++;
            }
            return place;
        }

        int notchAt(int log, int place) {
            return place >= 0 && place < notchCounts[log] ? notches[log * MOST_NOTCHES + place] : NONE;
        }

        /** Cuts a NOTCH behind the others; over the last one, if there is no place behind it. */
        void notchBehind(int log, int village) {
            int place = Math.min(notchCounts[log], MOST_NOTCHES - 1);
            notches[log * MOST_NOTCHES + place] = village;
            notchCounts[log] = place + 1;
        }
    }

    /** What is kept beside: coins, debts, WEDDINGS, SIGHTS, NOTCHES BY HAND, PLACES of DAYS, and x. */
    private static final class Books {
        int seed;
        int sea;
        final int[] coins = new int[MOST_VILLAGES];
        /** What one VILLAGE owes another one at one * MOST_VILLAGES + other. */
        final int[] debts = new int[MOST_VILLAGES * MOST_VILLAGES];
        int weddings;
        final int[] beams = new int[MOST_WEDDINGS];
        int sights;
        final int[] sightLogs = new int[MOST_SIGHTS];
        final int[] sightPlaces = new int[MOST_SIGHTS];
        final int[] sightVillages = new int[MOST_SIGHTS];
        final int[] sightDays = new int[MOST_SIGHTS];
        int cutCount;
        final int[] cutLogs = new int[MOST_CUTS];
        final int[] cutPlaces = new int[MOST_CUTS];
        final int[] cutVillages = new int[MOST_CUTS];
        /** Whose the NOTCH was that was cut over; NONE of one cut behind the others. */
        final int[] cutBefore = new int[MOST_CUTS];
        /** MOST_LOGS places of a DAY, at what its number leaves by DAYS_KEPT. */
        final int[] keptPlaces = new int[DAYS_KEPT * MOST_LOGS];

        /** All but x is new with a RIVER. */
        void start() {
            sea = 0;
            Arrays.fill(coins, 0);
            Arrays.fill(debts, 0);
            weddings = 0;
            sights = 0;
            cutCount = 0;
        }

        void copy(Books from) {
            seed = from.seed;
            sea = from.sea;
            copyRow(from.coins, coins);
            copyRow(from.debts, debts);
            weddings = from.weddings;
            copyRow(from.beams, beams);
            sights = from.sights;
            copyRow(from.sightLogs, sightLogs);
            copyRow(from.sightPlaces, sightPlaces);
            copyRow(from.sightVillages, sightVillages);
            copyRow(from.sightDays, sightDays);
            cutCount = from.cutCount;
            copyRow(from.cutLogs, cutLogs);
            copyRow(from.cutPlaces, cutPlaces);
            copyRow(from.cutVillages, cutVillages);
            copyRow(from.cutBefore, cutBefore);
            copyRow(from.keptPlaces, keptPlaces);
        }

        /** A VILLAGE owes an OWNER, if there is one and it is somebody else. */
        void owe(int village, int owner, int price) {
            if (owner != NONE && owner != village) {
                debts[village * MOST_VILLAGES + owner] += price;
            }
        }

        int net(int village) {
            int net = 0;
            for (int other = 0; other < MOST_VILLAGES; other++) {
                net += debts[other * MOST_VILLAGES + village] - debts[village * MOST_VILLAGES + other];
            }
            return net;
        }

        int writeOff(int most) {
            int all = 0;
            for (int i = 0; i < debts.length; i++) {
                if (debts[i] <= most) {
                    all += debts[i];
                    debts[i] = 0;
                }
            }
            return all;
        }

        int weddingsOf(int log) {
            int count = 0;
            for (int i = 0; i < weddings; i++) {
                count += beams[i] >> log & 1;
            }
            return count;
        }

        /** LOGS and all that are KIN to one of them by one step, as bits. */
        int kinOfAll(int logs) {
            int all = logs;
            for (int i = 0; i < weddings; i++) {
                if ((beams[i] & logs) != 0) {
                    all |= beams[i];
                }
            }
            return all;
        }

        void keepCut(int log, int place, int village, int before) {
            if (cutCount >= MOST_CUTS) {
                dropFirst(cutLogs);
                dropFirst(cutPlaces);
                dropFirst(cutVillages);
                dropFirst(cutBefore);
                cutCount = MOST_CUTS - 1;
            }
            cutLogs[cutCount] = log;
            cutPlaces[cutCount] = place;
            cutVillages[cutCount] = village;
            cutBefore[cutCount] = before;
            cutCount++;
        }

        private static void dropFirst(int[] kept) {
            System.arraycopy(kept, 1, kept, 0, kept.length - 1);
        }

        void keepSight(int log, int place, int village, int day) {
            sightLogs[sights] = log;
            sightPlaces[sights] = place;
            sightVillages[sights] = village;
            sightDays[sights] = day;
            sights++;
        }

        /** The SIGHT of the same LOG and place that was told ahead of one; NONE if it is the first. */
        int sightAhead(int sight) {
            int before = sight - 1;
            while (before >= 0
                    && (sightLogs[before] != sightLogs[sight] || sightPlaces[before] != sightPlaces[sight])) {
                before--;
            }
            return before;
        }

        /** The first SIGHT of a LOG and a place that is not as the one ahead of it; NONE without. */
        int partedSight(int log, int place) {
            for (int i = 0; i < sights; i++) {
                if (sightLogs[i] == log && sightPlaces[i] == place) {
                    int before = sightAhead(i);
                    if (before != NONE && sightVillages[before] != sightVillages[i]) {
                        return i;
                    }
                }
            }
            return NONE;
        }

        void keepPlaces(State state) {
            System.arraycopy(state.places, 0, keptPlaces, state.day % DAYS_KEPT * MOST_LOGS, MOST_LOGS);
        }
    }

    /** A RIVER with all that stands and is kept, and how DAYS pass there. */
    private static final class World {
        final River river;
        final State state = new State();
        final Books books = new Books();
        final int[] tally = new int[TALLIES];
        private final Rule[] rules;
        private final long[] words = new long[VALUE_WORD_COUNT];
        /** For an election: 0 by its SUM, 1 without one, 2 SOLD or BURNT; and the SUM. */
        private final int[] ranks = new int[MOST_LOGS];
        private final long[] sums = new long[MOST_LOGS];
        private int takenToday;

        World(River river, Rule[] rules) {
            this.river = river;
            this.rules = rules;
        }

        /** Begins a trial at how all stands elsewhere. */
        void begin(World from) {
            state.copy(from.state);
            Arrays.fill(tally, 0);
        }

        // ---- places

        /** The BEND of a LOG; of one that went as many as there are BENDS. */
        int bendOf(int log) {
            int place = state.places[log];
            if (place < ASHORE) {
                return place;
            }
            return place < SOLD ? river.villageBends[place - ASHORE] : river.bends;
        }

        int logsAt(int place) {
            int bits = 0;
            for (int log = 0; log < river.logs; log++) {
                if (state.places[log] == place) {
                    bits |= 1 << log;
                }
            }
            return bits;
        }

        int roomAt(int bend) {
            return Math.max(0, river.widths[bend] - state.dams[bend] - Integer.bitCount(logsAt(bend)));
        }

        boolean reaches(int village, int log) {
            int place = state.places[log];
            return place == ASHORE + village || place == river.villageBends[village];
        }

        /** VILLAGES at which a place is, as bits. */
        int villagesAt(int place) {
            int bits = 0;
            for (int village = 0; village < river.villages; village++) {
                if (place == ASHORE + village || place == river.villageBends[village]) {
                    bits |= 1 << village;
                }
            }
            return bits;
        }

        int daysKept() {
            return Math.min(state.day, DAYS_KEPT);
        }

        /** Where a LOG was behind a DAY that is kept. */
        int placeAgo(int log, int ago) {
            return books.keptPlaces[Math.floorMod(state.day - ago + 1, DAYS_KEPT) * MOST_LOGS + log];
        }

        int villagesSeen(int log, int from, int to) {
            int bits = 0;
            for (int ago = to; ago <= from; ago++) {
                bits |= villagesAt(placeAgo(log, ago));
            }
            return bits;
        }

        // ---- whose a LOG is, and its PRICE

        int ownerOf(int log) {
            int count = state.notchCounts[log];
            if (count < 1 || state.law < 2) {
                return state.notchAt(log, state.law == 0 ? 0 : count - 1);
            }
            int owner = NONE;
            long most = 0;
            for (int village = 0; village < river.villages; village++) {
                long claim = notchesOf(log, village);
                if (claim == 0) {
                    continue;
                }
                if (state.law == 3) {
                    Rule rule = rules[state.lawRule];
                    tellWords(log, village, NONE, 0);
                    if (!rule.finds(MINE, words)) {
                        continue;
                    }
                    claim = rule.sum;
                }
                if (owner == NONE || claim > most) {
                    owner = village;
                    most = claim;
                }
            }
            return owner;
        }

        private int notchesOf(int log, int village) {
            int count = 0;
            for (int place = 0; place < state.notchCounts[log]; place++) {
                if (state.notches[log * MOST_NOTCHES + place] == village) {
                    count++;
                }
            }
            return count;
        }

        /** LOGS of which a VILLAGE is the OWNER and that did not go, as bits. */
        int logsOf(int village) {
            int bits = 0;
            for (int log = 0; log < river.logs; log++) {
                if (!state.isGone(log) && ownerOf(log) == village) {
                    bits |= 1 << log;
                }
            }
            return bits;
        }

        int priceOf(int log) {
            if (state.places[log] == BURNT) {
                return 0;
            }
            int whole = state.lengths[log] * river.woodPrices[river.logWoods[log]];
            return Math.max(0, whole - river.toll * (river.bends - bendOf(log)));
        }

        int priceOfSet(int logs) {
            int sum = 0;
            for (int log = 0; log < river.logs; log++) {
                if ((logs >> log & 1) == 1) {
                    sum += priceOf(log);
                }
            }
            return sum;
        }

        // ---- APPEALS

        /** VILLAGES with a LOG that is theirs in the WATER at BENDS from one on and below another one. */
        private int ownersBetween(int from, int to) {
            int bits = 0;
            for (int log = 0; log < river.logs; log++) {
                if (state.places[log] >= from && state.places[log] < to) {
                    int owner = ownerOf(log);
                    if (owner != NONE) {
                        bits |= 1 << owner;
                    }
                }
            }
            return bits;
        }

        int tearing(int bend) {
            return ownersBetween(0, bend);
        }

        int keeping(int bend) {
            return ownersBetween(bend, river.bends) & ~ownersBetween(0, bend);
        }

        // ---- RULES

        /** Whether a RULE, if there is one, has a CLAUSE of a kind for a LOG. */
        private boolean asks(int number, int kind, int log, int village) {
            if (number < 0 || number >= MOST_RULES) {
                return false;
            }
            Rule rule = rules[number];
            if (!rule.hasKind(kind)) {
                return false;
            }
            int owner = rule.hasWord(OWNER_WORD) ? ownerOf(log) : NONE;
            int room = rule.hasWord(ROOM_WORD) ? roomFor(kind, log, village) : 0;
            tellWords(log, village, owner, room);
            return rule.finds(kind, words);
        }

        private int roomFor(int kind, int log, int village) {
            if (kind == ADD) {
                return roomAt(river.villageBends[village]);
            }
            if (!state.isInWater(log)) {
                return 0;
            }
            int next = state.places[log] + 1;
            return next < river.bends ? roomAt(next) : 99;
        }

        private void tellWords(int log, int village, int owner, int room) {
            int count = state.notchCounts[log];
            words[0] = log;
            words[1] = river.logWoods[log];
            words[2] = state.lengths[log];
            words[3] = river.logRings[log];
            words[4] = bendOf(log);
            words[5] = village == NONE ? NOBODY : village;
            words[OWNER_WORD] = owner == NONE ? NOBODY : owner;
            words[7] = count < 1 ? NOBODY : state.notches[log * MOST_NOTCHES];
            words[8] = count < 1 ? NOBODY : state.notches[log * MOST_NOTCHES + count - 1];
            words[9] = count;
            words[ROOM_WORD] = room;
            words[11] = state.water;
            words[12] = state.day;
        }

        // ---- a DAY

        void passDay() {
            for (int i = 0; i < river.logs; i++) {
                passLog(state.order[i]);
            }
            takenToday = 0;
            for (int village = 0; village < river.villages; village++) {
                if (state.villageRules[village] != NONE) {
                    passVillage(village, state.villageRules[village]);
                }
            }
            state.day = Math.min(state.day + 1, LAST_DAY);
        }

        private void passLog(int log) {
            if (!state.isInWater(log)) {
                // DAYS on end are over for a LOG that can't jam on this one
                state.jamDays[log] = 0;
                return;
            }
            int next = state.places[log] + 1;
            if (asks(state.ruleInForce, JAM, log, NONE) || next < river.bends && roomAt(next) < 1) {
                jam(log);
                return;
            }
            state.jamDays[log] = 0;
            if (next < river.bends) {
                state.places[log] = next;
            } else {
                sell(log);
            }
        }

        private void jam(int log) {
            tally[JAMS]++;
            state.jams[log]++;
            state.jamDays[log]++;
            if (state.jamDays[log] < 3) {
                return;
            }
            state.jamDays[log] = 0;
            if (state.notchCounts[log] > 0) {
                state.notchCounts[log]--;
                tally[NOTCHES_FADED]++;
            }
        }

        private void sell(int log) {
            // it is at the MOUTH when its OWNER is asked: a mine CLAUSE may look at the BEND
            state.places[log] = SOLD;
            int price = priceOf(log);
            int owner = ownerOf(log);
            tally[LOGS_SOLD]++;
            tally[COINS] += price;
            if (owner != NONE) {
                books.coins[owner] += price;
            } else if (river.villages > 0) {
                for (int village = 0; village < river.villages; village++) {
                    books.coins[village] += price / river.villages;
                }
                books.sea += price % river.villages;
            }
        }

        private void passVillage(int village, int rule) {
            int bend = river.villageBends[village];
            for (int log = 0; log < river.logs; log++) {
                if (state.places[log] == bend && asks(rule, TAKE, log, village)) {
                    take(log, village);
                }
            }
            for (int log = 0; log < river.logs; log++) {
                if (state.places[log] == ASHORE + village && (takenToday >> log & 1) == 0
                        && roomAt(bend) > 0 && asks(rule, ADD, log, village)) {
                    state.places[log] = bend;
                    tally[LOGS_ADDED]++;
                }
            }
        }

        private void take(int log, int village) {
            books.owe(village, ownerOf(log), priceOf(log));
            state.places[log] = ASHORE + village;
            state.notchBehind(log, village);
            takenToday |= 1 << log;
            tally[LOGS_TAKEN]++;
        }

        // ---- a FLOOD

        void rise(int n) {
            state.water = Math.min(state.water + n, HIGHEST_WATER);
            Arrays.fill(state.dams, 0);
            for (int log = 0; log < river.logs; log++) {
                if (state.isGone(log)) {
                    ranks[log] = 2;
                } else if (state.ruleInForce != NONE && asks(state.ruleInForce, ELECT, log, NONE)) {
                    ranks[log] = 0;
                    sums[log] = rules[state.ruleInForce].sum;
                } else {
                    ranks[log] = 1;
                }
            }
            for (int log = 0; log < river.logs; log++) {
                int place = log;
                while (place > 0 && goesAhead(log, state.order[place - 1])) {
                    state.order[place] = state.order[place - 1];
                    place--;
                }
                state.order[place] = log;
            }
        }

        private boolean goesAhead(int log, int other) {
            if (ranks[log] != ranks[other]) {
                return ranks[log] < ranks[other];
            }
            return ranks[log] == 0 && sums[log] > sums[other];
        }
    }

    /** All but the RULES and the TAPE, as it was. */
    private static final class Image {
        boolean made;
        private final River river = new River();
        private final State state = new State();
        private final Books books = new Books();

        void take(World from) {
            made = true;
            river.copy(from.river);
            state.copy(from.state);
            books.copy(from.books);
        }

        void give(World to) {
            to.river.copy(river);
            to.state.copy(state);
            to.books.copy(books);
        }
    }
}
