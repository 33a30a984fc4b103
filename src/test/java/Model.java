import java.math.BigInteger;
import java.util.ArrayList;
import java.util.Arrays;
import java.util.Collections;
import java.util.Comparator;
import java.util.List;
import java.util.TreeMap;
import java.util.TreeSet;
import java.util.function.Predicate;
import java.util.function.ToLongFunction;
import java.util.regex.Matcher;
import java.util.regex.Pattern;

/**
 * The document once more, with the whole library and no thought of speed or room, so that the class can be held
 * against it call by call. It shares no code and, where there is a choice, no way of reckoning with the class.
 */
public final class Model {

    // ---- texts

    private static final class Fault extends RuntimeException {
        private static final long serialVersionUID = 1L;
        final int number;

        Fault(int place, int kind) {
            super(null, null, false, false);
            number = 1 + 8 * place + kind;
        }
    }

    private record Token(String text, int place) {
        boolean isNumber() {
            return !text.isEmpty() && Character.isDigit(text.charAt(0)) && text.charAt(0) < 128;
        }
    }

    private static final Pattern TOKEN = Pattern.compile("[a-z]+|[0-9]+|<=|>=|[^ ]", Pattern.DOTALL);

    private static final class Parser {
        final List<Token> tokens = new ArrayList<>();
        int next;
        int items;

        Parser(String text) {
            Matcher matcher = TOKEN.matcher(text);
            while (matcher.find()) {
                tokens.add(new Token(matcher.group(), matcher.start()));
            }
            tokens.add(new Token("", text.length()));
        }

        Token peek() {
            return tokens.get(next);
        }

        boolean is(String... words) {
            return !peek().text.isEmpty() && Arrays.asList(words).contains(peek().text);
        }

        Token need(String... words) {
            if (!is(words)) {
                throw new Fault(peek().place, 0);
            }
            return tokens.get(next++);
        }

        int number(int low, int high) {
            Token token = peek();
            if (!token.isNumber()) {
                throw new Fault(token.place, 0);
            }
            if (token.text.length() > 5) {
                throw new Fault(token.place, 1);
            }
            int value = Integer.parseInt(token.text);
            if (value < low || value > high) {
                throw new Fault(token.place, 1);
            }
            next++;
            return value;
        }

        World river() {
            World world = new World();
            boolean toll = false;
            int clauses = 0;
            do {
                if (clauses > 0) {
                    need(";");
                }
                Token head = need("river", "village", "width", "wood", "log", "toll");
                clauses++;
                boolean first = clauses == 1;
                boolean many = clauses > 40 || head.text.equals("river") != first
                        || head.text.equals("village") && world.villageBends.size() == 6
                        || head.text.equals("wood") && world.woodPrices.size() == 4
                        || head.text.equals("log") && world.logs.size() == 12
                        || head.text.equals("toll") && toll;
                if (many) {
                    throw new Fault(head.place, 4);
                }
                switch (head.text) {
                    case "river" -> world.bends = number(2, 9);
                    case "village" -> world.villageBends.add(number(0, world.bends - 1));
                    case "width" -> world.widths.put(number(0, world.bends - 1), number(1, 9));
                    case "wood" -> world.woodPrices.add(number(1, 99));
                    case "log" -> {
                        Log log = new Log();
                        log.number = world.logs.size();
                        log.wood = number(0, world.woodPrices.size() - 1);
                        log.length = number(1, 99);
                        log.rings = number(1, 99);
                        log.ashore = number(0, world.villageBends.size() - 1);
                        log.notches.add(log.ashore);
                        world.logs.add(log);
                        world.order.add(log.number);
                    }
                    default -> {
                        toll = true;
                        world.toll = number(0, 9);
                    }
                }
            } while (!peek().text.isEmpty());
            world.water = 50;
            for (int i = 0; i < world.villageBends.size(); i++) {
                world.villageRules.add(-1);
                world.coins.add(0);
            }
            return world;
        }

        List<Clause> rule() {
            List<Clause> clauses = new ArrayList<>();
            do {
                if (!clauses.isEmpty()) {
                    need(";");
                }
                Token head = need("jam", "take", "add", "elect", "mine");
                if (clauses.size() == 12) {
                    throw new Fault(head.place, 4);
                }
                ToLongFunction<Words> sum = null;
                Predicate<Words> test = null;
                if (head.text.equals("elect") || head.text.equals("mine")) {
                    sum = sum();
                    if (is("if")) {
                        next++;
                        test = test(0);
                    }
                } else {
                    test = test(0);
                }
                clauses.add(new Clause(head.text, sum, test));
            } while (!peek().text.isEmpty());
            return clauses;
        }

        Predicate<Words> test(int depth) {
            Predicate<Words> left = part(depth);
            while (is("or")) {
                next++;
                left = left.or(part(depth));
            }
            return left;
        }

        Predicate<Words> part(int depth) {
            Predicate<Words> left = fact(depth);
            while (is("and")) {
                next++;
                left = left.and(fact(depth));
            }
            return left;
        }

        Predicate<Words> fact(int depth) {
            if (is("not", "[")) {
                Token head = tokens.get(next++);
                if (depth == 10) {
                    throw new Fault(head.place, 2);
                }
                if (head.text.equals("not")) {
                    return fact(depth + 1).negate();
                }
                Predicate<Words> inner = test(depth + 1);
                need("]");
                return inner;
            }
            ToLongFunction<Words> left = sum();
            Token sign = need("<", "<=", "=", ">=", ">");
            item(sign);
            ToLongFunction<Words> right = sum();
            return words -> {
                int order = Long.compare(left.applyAsLong(words), right.applyAsLong(words));
                return switch (sign.text) {
                    case "<" -> order < 0;
                    case "<=" -> order <= 0;
                    case "=" -> order == 0;
                    case ">=" -> order >= 0;
                    default -> order > 0;
                };
            };
        }

        void item(Token token) {
            items++;
            if (items > 60) {
                throw new Fault(token.place, 3);
            }
        }

        ToLongFunction<Words> sum() {
            ToLongFunction<Words> left = term();
            while (is("+", "-")) {
                left = join(left, tokens.get(next++).text, term());
            }
            return left;
        }

        ToLongFunction<Words> term() {
            ToLongFunction<Words> left = value();
            while (is("*", "/", "%")) {
                left = join(left, tokens.get(next++).text, value());
            }
            return left;
        }

        static final BigInteger ROUND = BigInteger.ONE.shiftLeft(64);

        /** 64 bits by numbers that know no bounds, so as not to lean on the machine's own. */
        static ToLongFunction<Words> join(ToLongFunction<Words> one, String sign, ToLongFunction<Words> other) {
            return words -> {
                BigInteger a = BigInteger.valueOf(one.applyAsLong(words));
                BigInteger b = BigInteger.valueOf(other.applyAsLong(words));
                boolean byNothing = b.signum() == 0;
                BigInteger whole = switch (sign) {
                    case "+" -> a.add(b);
                    case "-" -> a.subtract(b);
                    case "*" -> a.multiply(b);
                    case "/" -> byNothing ? BigInteger.ZERO : a.divide(b);
                    default -> byNothing ? BigInteger.ZERO : a.remainder(b);
                };
                return whole.mod(ROUND).longValue();
            };
        }

        ToLongFunction<Words> value() {
            Token token = peek();
            if (token.isNumber()) {
                long number = number(0, 99999);
                item(token);
                return words -> number;
            }
            need("log", "wood", "length", "rings", "bend", "village", "owner", "felled", "last", "notches", "room",
                    "water", "day");
            item(token);
            return words -> words.value(token.text);
        }
    }

    private record Clause(String kind, ToLongFunction<Words> sum, Predicate<Words> test) {
        boolean holds(Words words) {
            return test == null || test.test(words);
        }
    }

    /** What a WORD tells of a LOG in a CLAUSE of a kind. */
    private final class Words {
        final World world;
        final Log log;
        final String kind;
        final int village;

        Words(World world, Log log, String kind, int village) {
            this.world = world;
            this.log = log;
            this.kind = kind;
            this.village = village;
        }

        long value(String word) {
            return switch (word) {
                case "log" -> log.number;
                case "wood" -> log.wood;
                case "length" -> log.length;
                case "rings" -> log.rings;
                case "bend" -> world.bendOf(log);
                case "village" -> nine(village);
                case "owner" -> kind.equals("mine") ? 9 : nine(ownerOf(world, log));
                case "felled" -> log.notches.isEmpty() ? 9 : log.notches.get(0);
                case "last" -> log.notches.isEmpty() ? 9 : log.notches.get(log.notches.size() - 1);
                case "notches" -> log.notches.size();
                case "room" -> room();
                case "water" -> world.water;
                case "day" -> world.day;
                default -> throw new IllegalStateException(word);
            };
        }

        long nine(int number) {
            return number < 0 ? 9 : number;
        }

        long room() {
            if (kind.equals("mine")) {
                return 0;
            }
            if (kind.equals("add")) {
                return world.room(world.villageBends.get(village));
            }
            if (log.water < 0) {
                return 0;
            }
            return log.water == world.bends - 1 ? 99 : world.room(log.water + 1);
        }
    }

    // ---- what stands

    private static final class Log {
        int number;
        int wood;
        int length;
        int rings;
        /** One of the four is told; the others are as here. */
        int water = -1;
        int ashore = -1;
        boolean sold;
        boolean burnt;
        List<Integer> notches = new ArrayList<>();
        int jams;
        int jamsOnEnd;

        Log copy() {
            Log copy = new Log();
            copy.number = number;
            copy.wood = wood;
            copy.length = length;
            copy.rings = rings;
            copy.water = water;
            copy.ashore = ashore;
            copy.sold = sold;
            copy.burnt = burnt;
            copy.notches = new ArrayList<>(notches);
            copy.jams = jams;
            copy.jamsOnEnd = jamsOnEnd;
            return copy;
        }

        boolean gone() {
            return sold || burnt;
        }

        int place() {
            return sold ? 40 : burnt ? 41 : water >= 0 ? water : 20 + ashore;
        }

        void toWater(int bend) {
            water = bend;
            ashore = -1;
        }

        void toVillage(int village) {
            ashore = village;
            water = -1;
        }
    }

    private record Sight(int log, int place, int village, int day) {
    }

    private record Cut(int log, int place, int village, int before) {
    }

    private static final class World {
        int bends;
        int toll;
        int day;
        int water;
        int force = -1;
        int law;
        int lawRule;
        int sea;
        int x;
        List<Integer> villageBends = new ArrayList<>();
        List<Integer> woodPrices = new ArrayList<>();
        TreeMap<Integer, Integer> widths = new TreeMap<>();
        TreeMap<Integer, Integer> dams = new TreeMap<>();
        List<Log> logs = new ArrayList<>();
        List<Integer> order = new ArrayList<>();
        List<Integer> villageRules = new ArrayList<>();
        List<Integer> coins = new ArrayList<>();
        int[][] debts = new int[6][6];
        List<TreeSet<Integer>> weddings = new ArrayList<>();
        List<Sight> sights = new ArrayList<>();
        List<Cut> cuts = new ArrayList<>();
        /** Behind DAY 0, DAY 1 and on. */
        List<int[]> behind = new ArrayList<>();
        // what DAYS brought
        int jams;
        int soldCount;
        int soldCoins;
        int taken;
        int added;
        int faded;

        World copy() {
            World copy = new World();
            copy.bends = bends;
            copy.toll = toll;
            copy.day = day;
            copy.water = water;
            copy.force = force;
            copy.law = law;
            copy.lawRule = lawRule;
            copy.sea = sea;
            copy.x = x;
            copy.villageBends = new ArrayList<>(villageBends);
            copy.woodPrices = new ArrayList<>(woodPrices);
            copy.widths = new TreeMap<>(widths);
            copy.dams = new TreeMap<>(dams);
            for (Log log : logs) {
                copy.logs.add(log.copy());
            }
            copy.order = new ArrayList<>(order);
            copy.villageRules = new ArrayList<>(villageRules);
            copy.coins = new ArrayList<>(coins);
            for (int i = 0; i < 6; i++) {
                copy.debts[i] = debts[i].clone();
            }
            copy.weddings = new ArrayList<>(weddings);
            copy.sights = new ArrayList<>(sights);
            copy.cuts = new ArrayList<>(cuts);
            copy.behind = new ArrayList<>(behind);
            return copy;
        }

        int villages() {
            return villageBends.size();
        }

        int bendOf(Log log) {
            return log.water >= 0 ? log.water : log.gone() ? bends : villageBends.get(log.ashore);
        }

        int room(int bend) {
            int room = widths.getOrDefault(bend, 9) - dams.getOrDefault(bend, 0);
            for (Log log : logs) {
                if (log.water == bend) {
                    room--;
                }
            }
            return room < 0 ? 0 : room;
        }

        int price(Log log) {
            if (log.burnt) {
                return 0;
            }
            int price = log.length * woodPrices.get(log.wood);
            for (int bend = bendOf(log); bend < bends; bend++) {
                price -= toll;
            }
            return price < 0 ? 0 : price;
        }

        /** VILLAGES that a place is at. */
        TreeSet<Integer> at(int place) {
            TreeSet<Integer> there = new TreeSet<>();
            for (int village = 0; village < villages(); village++) {
                if (place < 9 ? villageBends.get(village) == place : place == 20 + village) {
                    there.add(village);
                }
            }
            return there;
        }

        int kept() {
            return Math.min(30, behind.size());
        }

        int[] ago(int ago) {
            return behind.get(behind.size() - ago);
        }

        int net(int village) {
            int net = 0;
            for (int other = 0; other < 6; other++) {
                net += debts[other][village];
                net -= debts[village][other];
            }
            return net;
        }
    }

    private final ArrayList<Byte> tape = new ArrayList<>();
    private final List<List<Clause>> rules = new ArrayList<>();
    private final World[] images = new World[4];
    private World now = new World();

    private int ownerOf(World world, Log log) {
        if (log.notches.isEmpty()) {
            return -1;
        }
        if (world.law == 0) {
            return log.notches.get(0);
        }
        if (world.law == 1) {
            return log.notches.get(log.notches.size() - 1);
        }
        int owner = -1;
        long greatest = 0;
        for (int village : new TreeSet<>(log.notches)) {
            Long claim = world.law == 2 ? Long.valueOf(Collections.frequency(log.notches, village))
                    : sumOf(world, world.lawRule, "mine", log, village);
            if (claim != null && (owner < 0 || claim > greatest)) {
                owner = village;
                greatest = claim;
            }
        }
        return owner;
    }

    /** The SUM of the first CLAUSE of a kind that holds; null without. */
    private Long sumOf(World world, int rule, String kind, Log log, int village) {
        if (rule < 0) {
            return null;
        }
        Words words = new Words(world, log, kind, village);
        for (Clause clause : rules.get(rule)) {
            if (clause.kind.equals(kind) && clause.holds(words)) {
                return clause.sum.applyAsLong(words);
            }
        }
        return null;
    }

    private boolean holds(World world, int rule, String kind, Log log, int village) {
        if (rule < 0) {
            return false;
        }
        Words words = new Words(world, log, kind, village);
        boolean some = false;
        for (Clause clause : rules.get(rule)) {
            some |= clause.kind.equals(kind) && clause.holds(words);
        }
        return some;
    }

    private void day(World world) {
        for (int number : world.order) {
            Log log = world.logs.get(number);
            if (log.water < 0) {
                log.jamsOnEnd = 0;
                continue;
            }
            boolean atMouth = log.water + 1 == world.bends;
            if (holds(world, world.force, "jam", log, -1) || !atMouth && world.room(log.water + 1) == 0) {
                world.jams++;
                log.jams++;
                log.jamsOnEnd++;
                if (log.jamsOnEnd == 3) {
                    log.jamsOnEnd = 0;
                    if (!log.notches.isEmpty()) {
                        log.notches.remove(log.notches.size() - 1);
                        world.faded++;
                    }
                }
            } else {
                log.jamsOnEnd = 0;
                log.water++;
                if (atMouth) {
                    log.water = -1;
                    log.sold = true;
                    pay(world, log);
                }
            }
        }
        for (int village = 0; village < world.villages(); village++) {
            turn(world, village);
        }
        world.day = Math.min(9999, world.day + 1);
        int[] places = new int[world.logs.size()];
        for (Log log : world.logs) {
            places[log.number] = log.place();
        }
        world.behind.add(places);
    }

    private void pay(World world, Log log) {
        int price = world.price(log);
        world.soldCount++;
        world.soldCoins += price;
        int owner = ownerOf(world, log);
        if (owner >= 0) {
            world.coins.set(owner, world.coins.get(owner) + price);
            return;
        }
        int each = 0;
        while ((each + 1) * world.villages() <= price) {
            each++;
        }
        for (int village = 0; village < world.villages(); village++) {
            world.coins.set(village, world.coins.get(village) + each);
            price -= each;
        }
        world.sea += price;
    }

    private void turn(World world, int village) {
        int rule = world.villageRules.get(village);
        int bend = world.villageBends.get(village);
        TreeSet<Integer> taken = new TreeSet<>();
        for (Log log : world.logs) {
            if (log.water == bend && holds(world, rule, "take", log, village)) {
                int owner = ownerOf(world, log);
                if (owner >= 0 && owner != village) {
                    world.debts[village][owner] += world.price(log);
                }
                log.toVillage(village);
                if (log.notches.size() == 6) {
                    log.notches.remove(5);
                }
                log.notches.add(village);
                taken.add(log.number);
                world.taken++;
            }
        }
        for (Log log : world.logs) {
            if (log.ashore == village && !taken.contains(log.number) && holds(world, rule, "add", log, village)
                    && world.room(bend) > 0) {
                log.toWater(bend);
                world.added++;
            }
        }
    }

    private void flood(World world, int n) {
        world.water = Math.min(999, world.water + n);
        world.dams.clear();
        List<Integer> stay = new ArrayList<>();
        List<Integer> other = new ArrayList<>();
        List<Integer> gone = new ArrayList<>();
        TreeMap<Integer, Long> sums = new TreeMap<>();
        for (Log log : world.logs) {
            Long sum = log.gone() ? null : sumOf(world, world.force, "elect", log, -1);
            if (log.gone()) {
                gone.add(log.number);
            } else if (sum == null) {
                other.add(log.number);
            } else {
                stay.add(log.number);
                sums.put(log.number, sum);
            }
        }
        stay.sort(Comparator.comparing((Integer log) -> sums.get(log)).reversed()
                .thenComparing(Comparator.naturalOrder()));
        world.order = new ArrayList<>(stay);
        world.order.addAll(other);
        world.order.addAll(gone);
    }

    // ---- the face

    private boolean isRiver() {
        return now.bends > 0;
    }

    private boolean isLog(int log) {
        return log >= 0 && log < now.logs.size();
    }

    private boolean isVillage(int village) {
        return village >= 0 && village < now.villages();
    }

    private boolean isBend(int bend) {
        return bend >= 0 && bend < now.bends;
    }

    private boolean isRule(int rule) {
        return rule >= 0 && rule < rules.size();
    }

    private static boolean in(int low, int number, int high) {
        return low <= number && number <= high;
    }

    private static int bits(Iterable<Integer> numbers) {
        int bits = 0;
        for (int number : numbers) {
            bits |= 1 << number;
        }
        return bits;
    }

    private int logBits(Predicate<Log> which) {
        int bits = 0;
        for (Log log : now.logs) {
            if (which.test(log)) {
                bits |= 1 << log.number;
            }
        }
        return bits;
    }

    public int feed(int a, int b, int c, int d, int e) {
        if (tape.size() > 380) {
            return -1;
        }
        for (int number : new int[] {a, b, c, d, e}) {
            tape.add((byte) (number >> 24));
            tape.add((byte) (number >> 16));
            tape.add((byte) (number >> 8));
            tape.add((byte) number);
        }
        return tape.size();
    }

    public int end(int n) {
        if (!in(0, n, tape.size())) {
            return -1;
        }
        tape.subList(n, tape.size()).clear();
        return n;
    }

    private String text() {
        StringBuilder text = new StringBuilder();
        for (byte b : tape) {
            text.append((char) (b & 255));
        }
        tape.clear();
        return text.toString();
    }

    public int river() {
        try {
            World world = new Parser(text()).river();
            world.x = now.x;
            now = world;
            return now.logs.size();
        } catch (Fault fault) {
            return -2 - fault.number;
        }
    }

    public int rule() {
        if (rules.size() == 6) {
            return -1;
        }
        try {
            rules.add(new Parser(text()).rule());
            return rules.size() - 1;
        } catch (Fault fault) {
            return -2 - fault.number;
        }
    }

    public int force(int rule) {
        if (!isRiver() || rule != -1 && !isRule(rule)) {
            return -2;
        }
        int was = now.force;
        now.force = rule;
        return was;
    }

    public int bind(int village, int rule) {
        if (!isVillage(village) || rule != -1 && !isRule(rule)) {
            return -2;
        }
        return now.villageRules.set(village, rule);
    }

    public int law(int law, int rule) {
        if (!isRiver() || !in(0, law, 3) || law == 3 && !isRule(rule)) {
            return -2;
        }
        int was = now.law;
        now.law = law;
        now.lawRule = rule;
        return was;
    }

    public int bend(int bend, int what) {
        if (!isBend(bend)) {
            return -1;
        }
        return switch (what) {
            case 0 -> now.widths.getOrDefault(bend, 9);
            case 1 -> now.dams.getOrDefault(bend, 0);
            case 2 -> logBits(log -> log.water == bend);
            case 3 -> now.room(bend);
            default -> -1;
        };
    }

    public int village(int village, int what) {
        if (!isVillage(village)) {
            return -1000000;
        }
        return switch (what) {
            case 0 -> now.villageBends.get(village);
            case 1 -> now.villageRules.get(village);
            case 2 -> now.coins.get(village);
            case 3 -> logBits(log -> log.ashore == village && !log.gone());
            case 4 -> logBits(log -> !log.gone() && ownerOf(now, log) == village);
            case 5 -> now.net(village);
            default -> -1000000;
        };
    }

    public int log(int number, int what) {
        if (!isLog(number)) {
            return -2;
        }
        Log log = now.logs.get(number);
        return switch (what) {
            case 0 -> log.wood;
            case 1 -> log.length;
            case 2 -> log.rings;
            case 3 -> log.place();
            case 4 -> log.notches.size();
            case 5 -> ownerOf(now, log);
            case 6 -> now.price(log);
            case 7 -> log.jams;
            case 8 -> log.jamsOnEnd;
            case 9 -> now.order.indexOf(number);
            case 10 -> (int) now.weddings.stream().filter(beams -> beams.contains(number)).count();
            default -> -2;
        };
    }

    public int notch(int log, int place) {
        if (!isLog(log)) {
            return -2;
        }
        List<Integer> notches = now.logs.get(log).notches;
        return in(0, place, notches.size() - 1) ? notches.get(place) : -1;
    }

    private boolean may(int log, int village) {
        return isLog(log) && isVillage(village) && now.at(now.logs.get(log).place()).contains(village);
    }

    private void keep(Cut cut) {
        now.cuts.add(cut);
        if (now.cuts.size() > 12) {
            now.cuts.remove(0);
        }
    }

    public int cut(int log, int village) {
        if (!may(log, village) || now.logs.get(log).notches.size() == 6) {
            return -2;
        }
        List<Integer> notches = now.logs.get(log).notches;
        notches.add(village);
        keep(new Cut(log, notches.size() - 1, village, -1));
        return notches.size();
    }

    public int cutOver(int log, int place, int village) {
        if (!may(log, village) || !in(0, notch(log, place), 5) || notch(log, place) == village) {
            return -2;
        }
        int before = now.logs.get(log).notches.set(place, village);
        keep(new Cut(log, place, village, before));
        return before;
    }

    public int undo() {
        if (now.cuts.isEmpty()) {
            return -2;
        }
        Cut cut = now.cuts.get(now.cuts.size() - 1);
        List<Integer> notches = now.logs.get(cut.log).notches;
        if (notch(cut.log, cut.place) != cut.village || cut.before < 0 && cut.place != notches.size() - 1) {
            return -2;
        }
        if (cut.before < 0) {
            notches.remove(cut.place);
        } else {
            notches.set(cut.place, cut.before);
        }
        now.cuts.remove(now.cuts.size() - 1);
        return cut.log;
    }

    public int launch(int log) {
        if (!isLog(log) || !in(20, now.logs.get(log).place(), 25)) {
            return -2;
        }
        int bend = now.bendOf(now.logs.get(log));
        if (now.room(bend) == 0) {
            return -2;
        }
        now.logs.get(log).toWater(bend);
        return bend;
    }

    public boolean land(int log, int village) {
        if (!isLog(log) || !isVillage(village) || now.logs.get(log).water != now.villageBends.get(village)) {
            return false;
        }
        now.logs.get(log).toVillage(village);
        return true;
    }

    public int burn(int log) {
        if (!isLog(log) || !in(20, now.logs.get(log).place(), 25)) {
            return -2;
        }
        Log it = now.logs.get(log);
        int price = now.price(it);
        int owner = ownerOf(now, it);
        if (owner >= 0 && owner != it.ashore) {
            now.debts[it.ashore][owner] += price;
        }
        it.ashore = -1;
        it.burnt = true;
        return price;
    }

    public int saw(int log, int n) {
        if (!isLog(log) || now.logs.get(log).gone() || n < 1 || (long) now.logs.get(log).length - n < 1) {
            return -2;
        }
        now.logs.get(log).length -= n;
        return now.logs.get(log).length;
    }

    public int ahead(int log, int place) {
        if (!isLog(log) || !in(0, place, now.logs.size() - 1)) {
            return -2;
        }
        int was = now.order.indexOf(log);
        now.order.remove(was);
        now.order.add(place, log);
        return was;
    }

    public int dam(int bend) {
        if (!isBend(bend) || now.dams.getOrDefault(bend, 0) == 3) {
            return -2;
        }
        return now.dams.merge(bend, 1, Integer::sum);
    }

    public int appeal(int bend) {
        if (!isBend(bend) || now.dams.getOrDefault(bend, 0) == 0) {
            return -2;
        }
        if (Integer.bitCount(votes(bend, 0)) > Integer.bitCount(votes(bend, 1))) {
            now.dams.merge(bend, -1, Integer::sum);
            return 1;
        }
        return 0;
    }

    public int votes(int bend, int what) {
        if (!isBend(bend) || !in(0, what, 1)) {
            return -1;
        }
        TreeSet<Integer> tear = new TreeSet<>();
        TreeSet<Integer> keep = new TreeSet<>();
        for (int village = 0; village < now.villages(); village++) {
            int her = village;
            if (now.logs.stream().anyMatch(log -> in(0, log.water, bend - 1) && ownerOf(now, log) == her)) {
                tear.add(village);
            } else if (now.logs.stream().anyMatch(log -> log.water >= bend && ownerOf(now, log) == her)) {
                keep.add(village);
            }
        }
        return bits(what == 0 ? tear : keep);
    }

    public int flood(int n) {
        if (!isRiver() || !in(0, n, 99)) {
            return -2;
        }
        flood(now, n);
        return now.water;
    }

    public int elected(int place) {
        if (!isLog(place)) {
            return -1;
        }
        World world = now.copy();
        flood(world, 0);
        return world.order.get(place);
    }

    public int wedding(int village) {
        if (!isVillage(village) || now.weddings.size() == 20) {
            return -2;
        }
        TreeSet<Integer> beams = new TreeSet<>();
        for (Log log : now.logs) {
            if (log.place() == 20 + village) {
                beams.add(log.number);
            }
        }
        now.weddings.add(beams);
        return bits(beams);
    }

    public int winter(int n) {
        if (!isRiver() || !in(0, n, 99999)) {
            return -2;
        }
        int coins = 0;
        for (int[] debts : now.debts) {
            for (int i = 0; i < 6; i++) {
                if (debts[i] <= n) {
                    coins += debts[i];
                    debts[i] = 0;
                }
            }
        }
        return coins;
    }

    public int days(int n) {
        if (!isRiver() || !in(1, n, 60) || now.day + n > 9999) {
            return -2;
        }
        for (int i = 0; i < n; i++) {
            day(now);
        }
        return now.day;
    }

    public int floats(int n, int what) {
        if (!isRiver() || !in(0, n, 60) || !in(0, what, 5)) {
            return -1;
        }
        World world = now.copy();
        for (int i = 0; i < n; i++) {
            day(world);
        }
        return new int[] {world.jams, world.soldCount, world.soldCoins, world.taken, world.added, world.faded}[what];
    }

    private static void orders(List<Integer> rest, List<Integer> row, List<List<Integer>> all) {
        if (rest.isEmpty()) {
            all.add(new ArrayList<>(row));
        }
        for (Integer log : rest) {
            List<Integer> left = new ArrayList<>(rest);
            left.remove(log);
            row.add(log);
            orders(left, row, all);
            row.remove(row.size() - 1);
        }
    }

    public int letAhead(int n, int what) {
        List<Integer> wet = new ArrayList<>();
        for (Log log : now.logs) {
            if (log.water >= 0) {
                wet.add(log.number);
            }
        }
        if (!isRiver() || !in(0, n, 20) || !in(0, what, 6) || wet.size() > 6) {
            return -1;
        }
        List<List<Integer>> all = new ArrayList<>();
        orders(wet, new ArrayList<>(), all);
        int fewest = Integer.MAX_VALUE;
        List<Integer> best = null;
        for (List<Integer> row : all) {
            World world = now.copy();
            int next = 0;
            for (int i = 0; i < world.order.size(); i++) {
                if (wet.contains(world.order.get(i))) {
                    world.order.set(i, row.get(next++));
                }
            }
            for (int i = 0; i < n; i++) {
                day(world);
            }
            if (world.jams < fewest) {
                fewest = world.jams;
                best = row;
            }
        }
        return what == 0 ? fewest : what > best.size() ? -2 : best.get(what - 1);
    }

    public int kin(int one, int other) {
        if (!isLog(one) || !isLog(other)) {
            return -1;
        }
        int[] steps = steps(one);
        return steps[other];
    }

    /** How many steps from one to each; -2 where there are none. */
    private int[] steps(int one) {
        int[] steps = new int[now.logs.size()];
        Arrays.fill(steps, -2);
        steps[one] = 0;
        List<Integer> queue = new ArrayList<>(List.of(one));
        for (int i = 0; i < queue.size(); i++) {
            int log = queue.get(i);
            for (TreeSet<Integer> beams : now.weddings) {
                for (int next : beams) {
                    if (beams.contains(log) && steps[next] == -2) {
                        steps[next] = steps[log] + 1;
                        queue.add(next);
                    }
                }
            }
        }
        return steps;
    }

    public int kinOf(int log) {
        if (!isLog(log)) {
            return -1;
        }
        int[] steps = steps(log);
        return logBits(other -> steps[other.number] >= 0);
    }

    public int was(int log, int ago) {
        return isLog(log) && in(1, ago, now.kept()) ? now.ago(ago)[log] : -2;
    }

    private boolean kept(int log, int from, int to) {
        return isLog(log) && to >= 1 && from >= to && from <= now.kept();
    }

    public int wereAt(int log, int from, int to) {
        if (!kept(log, from, to)) {
            return -1;
        }
        TreeSet<Integer> all = new TreeSet<>();
        for (int ago = to; ago <= from; ago++) {
            all.addAll(now.at(now.ago(ago)[log]));
        }
        return bits(all);
    }

    public int likely(int log, int from, int to, int village, int part) {
        if (!kept(log, from, to) || !isVillage(village) || !in(0, part, 1)) {
            return -1;
        }
        BigInteger above = BigInteger.ZERO;
        BigInteger below = BigInteger.ONE;
        for (int ago = to; ago <= from; ago++) {
            TreeSet<Integer> there = now.at(now.ago(ago)[log]);
            if (there.contains(village)) {
                BigInteger share = BigInteger.valueOf(there.size());
                above = above.multiply(share).add(below);
                below = below.multiply(share);
            }
        }
        below = below.multiply(BigInteger.valueOf(from - to + 1));
        BigInteger common = above.gcd(below);
        return (part == 0 ? above : below).divide(common).intValueExact();
    }

    public int sight(int log, int place, int village) {
        if (log == -1) {
            now.sights.clear();
            return 0;
        }
        if (!isLog(log) || !in(0, place, 5) || village != -1 && !isVillage(village) || now.sights.size() == 20) {
            return -2;
        }
        now.sights.add(new Sight(log, place, village, now.day));
        return now.sights.size();
    }

    public int parted(int log, int place, int what) {
        if (!isLog(log) || !in(0, place, 5) || !in(0, what, 3)) {
            return -1;
        }
        Sight ahead = null;
        for (int i = 0; i < now.sights.size(); i++) {
            Sight sight = now.sights.get(i);
            if (sight.log != log || sight.place != place) {
                continue;
            }
            if (ahead != null && ahead.village != sight.village) {
                TreeSet<Integer> all = new TreeSet<>();
                for (int day = ahead.day; day < sight.day; day++) {
                    if (now.behind.size() - day <= 30) {
                        all.addAll(now.at(now.behind.get(day)[log]));
                    }
                }
                return new int[] {i, ahead.day, sight.day, bits(all)}[what];
            }
            ahead = sight;
        }
        return -2;
    }

    public int owes(int one, int other) {
        return isVillage(one) && isVillage(other) && one != other ? now.debts[one][other] : -1;
    }

    public int payments() {
        if (!isRiver()) {
            return -1;
        }
        int[] nets = new int[now.villages()];
        for (int village = 0; village < nets.length; village++) {
            nets[village] = now.net(village);
        }
        return settled(nets, 0);
    }

    /** Every way: the first VILLAGE whose NET is not 0 evens it with one of the others, and so on. */
    private static int settled(int[] nets, int from) {
        int first = from;
        while (first < nets.length && nets[first] == 0) {
            first++;
        }
        if (first == nets.length) {
            return 0;
        }
        int fewest = 1000;
        for (int other = first + 1; other < nets.length; other++) {
            if ((long) nets[other] * nets[first] < 0) {
                nets[other] += nets[first];
                fewest = Math.min(fewest, 1 + settled(nets, first + 1));
                nets[other] -= nets[first];
            }
        }
        return fewest;
    }

    public int repaid(int one, int other, int what) {
        if (!isVillage(one) || !isVillage(other) || one == other || !in(0, what, 1)) {
            return -1;
        }
        List<int[]> sets = new ArrayList<>();
        for (int set = 0; set < 1 << now.logs.size(); set++) {
            int sum = 0;
            boolean good = true;
            for (Log log : now.logs) {
                if ((set >> log.number & 1) == 1) {
                    good &= log.place() == 20 + one && ownerOf(now, log) == one;
                    if (!good) {
                        break;
                    }
                    sum += now.price(log);
                }
            }
            if (good && sum >= now.debts[one][other]) {
                sets.add(new int[] {sum, set});
            }
        }
        return sets.stream().min(Comparator.comparing((int[] set) -> set[0])
                .thenComparing(set -> Integer.bitCount(set[1])).thenComparing(set -> set[1]))
                .map(set -> set[what]).orElse(-2);
    }

    public int seed(int x) {
        if (x < 0) {
            return -1;
        }
        int was = now.x;
        now.x = x;
        return was;
    }

    public int drawn(int m, int n, int p, int what) {
        if (!isRiver() || !in(1, m, 10) || !in(1, n, 60) || !in(0, p, 100) || !in(0, what, 2)) {
            return -1;
        }
        BigInteger x = BigInteger.valueOf(now.x);
        int[] all = new int[3];
        for (int i = 0; i < m; i++) {
            World world = now.copy();
            for (int j = 0; j < n; j++) {
                x = next(x);
                if (x.intValueExact() / 65536 % 100 < p) {
                    x = next(x);
                    flood(world, x.intValueExact() / 65536 % 10);
                    all[2]++;
                }
                day(world);
            }
            all[0] += world.jams;
            all[1] += world.soldCoins;
        }
        return all[what];
    }

    private static BigInteger next(BigInteger x) {
        return x.multiply(BigInteger.valueOf(1103515245)).add(BigInteger.valueOf(12345))
                .mod(BigInteger.valueOf(2147483648L));
    }

    public int count(int what) {
        return switch (what) {
            case 0 -> now.bends;
            case 1 -> now.villages();
            case 2 -> now.woodPrices.size();
            case 3 -> now.logs.size();
            case 4 -> rules.size();
            case 5 -> now.force;
            case 6 -> now.law;
            case 7 -> now.day;
            case 8 -> now.water;
            case 9 -> Integer.bitCount(logBits(log -> log.water >= 0));
            case 10 -> Integer.bitCount(logBits(log -> log.sold));
            case 11 -> Integer.bitCount(logBits(log -> log.burnt));
            case 12 -> now.sea;
            case 13 -> now.weddings.size();
            case 14 -> now.sights.size();
            case 15 -> now.cuts.size();
            case 16 -> now.logs.stream().mapToInt(log -> log.jams).sum();
            case 17 -> now.x;
            case 18 -> tape.size();
            case 19 -> now.toll;
            default -> -1;
        };
    }

    public int image(int k) {
        if (!in(0, k, 3)) {
            return -1;
        }
        images[k] = now.copy();
        return now.day;
    }

    public int back(int k) {
        if (!in(0, k, 3) || images[k] == null) {
            return -1;
        }
        now = images[k].copy();
        return now.day;
    }
}
