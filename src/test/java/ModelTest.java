import java.lang.reflect.Method;
import java.util.ArrayList;
import java.util.Arrays;
import java.util.Comparator;
import java.util.List;
import java.util.Random;
import java.util.TreeMap;

/** All promises: runs of calls by chance (always the same ones), each held against the model. */
public final class ModelTest {
    private static final Check CHECK = new Check("ModelTest");
    private static final int RUNS = 3000;

    private final Random random;
    private final RaftForest forest = new RaftForest();
    private final Model model = new Model();
    private final List<Method> calls = new ArrayList<>();
    private final StringBuilder told = new StringBuilder();
    private int left = 512;
    private boolean same = true;
    private final TreeMap<String, Integer> answered = new TreeMap<>();

    private ModelTest(int seed) {
        random = new Random(seed);
        for (Method method : RaftForest.class.getDeclaredMethods()) {
            if (java.lang.reflect.Modifier.isPublic(method.getModifiers())) {
                calls.add(method);
            }
        }
        calls.sort(Comparator.comparing(Method::getName));
    }

    public static void main(String[] args) throws Exception {
        TreeMap<String, Integer> answered = new TreeMap<>();
        int from = args.length > 0 ? Integer.parseInt(args[0]) : 0;
        int to = args.length > 1 ? Integer.parseInt(args[1]) : RUNS;
        for (int seed = from; seed < to; seed++) {
            ModelTest test = new ModelTest(seed);
            test.run();
            test.answered.forEach((name, count) -> answered.merge(name, count, Integer::sum));
            if (!test.same) {
                System.out.println("run " + seed + ":" + test.told);
                break;
            }
        }
        for (Method method : RaftForest.class.getDeclaredMethods()) {
            if (java.lang.reflect.Modifier.isPublic(method.getModifiers()) && to - from >= 500) {
                CHECK.holds(method.getName() + " was answered and not refused often enough: "
                        + answered.get(method.getName()), answered.getOrDefault(method.getName(), 0) > 200);
            }
        }
        System.out.println(answered);
        CHECK.end();
    }

    private void run() throws Exception {
        if (random.nextInt(8) != 0) {
            tell("river", riverText());
            for (int rules = random.nextInt(5); rules > 0; rules--) {
                tell("rule", ruleText());
            }
        }
        while (left > 0 && same) {
            int chance = random.nextInt(1000);
            if (chance < 3) {
                tell("river", riverText());
            } else if (chance < 8) {
                tell("rule", ruleText());
            } else if (chance < 14) {
                tell(random.nextBoolean() ? "river" : "rule", broken(random.nextBoolean() ? riverText() : ruleText()));
            } else {
                Method method = calls.get(random.nextInt(calls.size()));
                // what ends LOGS comes seldom, so that there are some
                if (List.of("river", "burn", "back").contains(method.getName()) && random.nextInt(5) > 0) {
                    continue;
                }
                call(method, arguments(method));
            }
        }
    }

    private void call(Method method, Object[] arguments) throws Exception {
        if (left-- <= 0 || !same) {
            return;
        }
        Object got = method.invoke(forest, arguments);
        Object due = Model.class.getMethod(method.getName(), method.getParameterTypes()).invoke(model, arguments);
        String call = method.getName() + Arrays.toString(arguments);
        told.append("\n  ").append(call).append(" = ").append(got);
        same = got.equals(due);
        CHECK.same(call, number(got), number(due));
        if (number(got) >= 0) {
            answered.merge(method.getName(), 1, Integer::sum);
        }
    }

    private static long number(Object answer) {
        return answer instanceof Boolean truth ? truth ? 1 : 0 : (Integer) answer;
    }

    private Object[] arguments(Method method) {
        Object[] arguments = new Object[method.getParameterCount()];
        for (int i = 0; i < arguments.length; i++) {
            arguments[i] = argument(method.getName(), i);
        }
        // most calls by a VILLAGE are for one that the LOG is at: by chance alone few would be
        if (List.of("cut", "cutOver", "land").contains(method.getName()) && random.nextInt(5) > 0) {
            int place = forest.log((Integer) arguments[0], 3);
            int village = random.nextInt(6);
            for (int i = 0; i < 6 && place != 20 + village && place != forest.village(village, 0); i++) {
                village = (village + 1) % 6;
            }
            arguments[arguments.length - 1] = village;
        }
        return arguments;
    }

    private int argument(String name, int place) {
        if (random.nextInt(150) == 0) {
            int[] far = {Integer.MIN_VALUE, Integer.MAX_VALUE, -1, -2, -3, 60, 61, 100, 1000, 65536};
            return far[random.nextInt(far.length)];
        }
        return switch (name) {
            case "feed" -> random.nextInt();
            case "end" -> random.nextInt(60) - 1;
            case "days" -> random.nextInt(20) == 0 ? random.nextInt(62) : random.nextInt(3);
            case "floats" -> place == 0 ? random.nextInt(12) : random.nextInt(7);
            case "letAhead" -> place == 0 ? random.nextInt(7) : random.nextInt(8);
            case "flood" -> random.nextInt(101);
            case "winter" -> random.nextInt(3) == 0 ? random.nextInt(100001) : random.nextInt(300);
            case "saw" -> place == 0 ? random.nextInt(12) : random.nextInt(12);
            case "seed" -> random.nextInt();
            case "drawn" -> new int[] {1 + random.nextInt(3), 1 + random.nextInt(12), random.nextInt(101),
                    random.nextInt(4)}[place];
            case "count" -> random.nextInt(21);
            case "wereAt", "likely" -> new int[] {random.nextInt(8), 1 + random.nextInt(12), 1 + random.nextInt(4),
                    random.nextInt(5), random.nextInt(2)}[place];
            case "was" -> place == 0 ? random.nextInt(9) : random.nextInt(random.nextBoolean() ? 4 : 32);
            case "force" -> random.nextInt(5) - 1;
            case "bind" -> place == 0 ? random.nextInt(6) : random.nextInt(5) - 1;
            case "sight" -> place == 0 ? random.nextInt(20) == 0 ? -1 : random.nextInt(3)
                    : place == 1 ? random.nextInt(2) : random.nextInt(5) - 1;
            case "parted" -> place == 0 ? random.nextInt(3) : place == 1 ? random.nextInt(2) : random.nextInt(5);
            case "cutOver" -> place == 1 ? random.nextInt(3) : random.nextInt(6);
            case "appeal" -> random.nextInt(4);
            case "log" -> place == 1 ? random.nextInt(12) : random.nextInt(9);
            case "village" -> place == 1 ? random.nextInt(7) : random.nextInt(6);
            default -> random.nextInt(7) - (random.nextInt(12) == 0 ? 1 : 0);
        };
    }

    /** A text comes on the TAPE by feed and end, and is read. */
    private void tell(String reader, String text) throws Exception {
        Class<?> face = RaftForest.class;
        Method feed = face.getMethod("feed", int.class, int.class, int.class, int.class, int.class);
        Method end = face.getMethod("end", int.class);
        call(end, new Object[] {0});
        for (int i = 0; i < text.length(); i += 20) {
            Object[] numbers = new Object[5];
            for (int j = 0; j < 5; j++) {
                int number = 0;
                for (int k = i + 4 * j; k < i + 4 * j + 4; k++) {
                    number = number << 8 | (k < text.length() ? text.charAt(k) & 255 : 0);
                }
                numbers[j] = number;
            }
            call(feed, numbers);
        }
        told.append("\n  \"").append(text).append('"');
        call(end, new Object[] {text.length()});
        call(face.getMethod(reader), new Object[0]);
    }

    // ---- texts by chance

    private String riverText() {
        int bends = 2 + random.nextInt(random.nextInt(4) == 0 ? 8 : 3);
        int villages = 1 + random.nextInt(6);
        int woods = 1 + random.nextInt(4);
        int logs = random.nextInt(8) == 0 ? random.nextInt(13) : 1 + random.nextInt(8);
        StringBuilder text = new StringBuilder("river" + blank() + bends);
        for (int i = 0; i < villages; i++) {
            text.append(";village" + blank() + random.nextInt(bends));
        }
        for (int i = 0; i < woods; i++) {
            text.append(";wood" + blank() + (1 + random.nextInt(9)));
        }
        for (int i = random.nextInt(4); i > 0; i--) {
            text.append("; width " + random.nextInt(bends) + " " + (1 + random.nextInt(3)));
        }
        if (random.nextBoolean()) {
            text.append(";toll " + random.nextInt(10));
        }
        for (int i = 0; i < logs; i++) {
            text.append(";log " + random.nextInt(woods) + " " + (1 + random.nextInt(20)) + " "
                    + (1 + random.nextInt(99)) + " " + random.nextInt(villages));
        }
        return text.length() > 400 ? "river 2;village 0;wood 1;log 0 1 1 0" : text.toString();
    }

    private String ruleText() {
        String[] kinds = {"jam ", "take ", "add ", "elect ", "mine "};
        StringBuilder text = new StringBuilder();
        for (int clauses = 1 + random.nextInt(6); clauses > 0; clauses--) {
            int kind = random.nextInt(5);
            text.append(kinds[kind]);
            if (kind > 2) {
                text.append(sum());
                if (random.nextBoolean()) {
                    text.append(" if " + test(0));
                }
            } else {
                text.append(test(0));
            }
            text.append(clauses > 1 ? ";" + blank() : "");
        }
        return text.length() > 400 ? text.substring(0, 400) : text.toString();
    }

    private String test(int depth) {
        StringBuilder text = new StringBuilder(fact(depth));
        for (int i = random.nextInt(6); i > 3; i--) {
            text.append(random.nextBoolean() ? " or " : " and ").append(fact(depth));
        }
        return text.toString();
    }

    private String fact(int depth) {
        int chance = random.nextInt(depth > 12 ? 6 : 9);
        if (chance == 8) {
            return "not " + fact(depth + 1);
        }
        if (chance > 5) {
            return "[" + blank() + test(depth + 1) + blank() + "]";
        }
        String[] signs = {"<", "<=", "=", ">=", ">"};
        return sum() + blank() + signs[random.nextInt(5)] + blank() + sum();
    }

    private String sum() {
        StringBuilder text = new StringBuilder(value());
        for (int i = random.nextInt(6); i > 3; i--) {
            text.append(blank()).append("+-*/%".charAt(random.nextInt(5))).append(blank()).append(value());
        }
        return text.toString();
    }

    private String value() {
        String[] words = {"log", "wood", "length", "rings", "bend", "village", "owner", "felled", "last", "notches",
            "room", "water", "day"};
        if (random.nextInt(3) > 0) {
            return words[random.nextInt(words.length)];
        }
        return "" + (random.nextInt(8) == 0 ? random.nextInt(100000) : random.nextInt(10));
    }

    private String blank() {
        return random.nextInt(3) == 0 ? " ".repeat(random.nextInt(3)) : "";
    }

    private String broken(String text) {
        StringBuilder broken = new StringBuilder(text);
        for (int i = 1 + random.nextInt(2); i > 0 && broken.length() > 0; i--) {
            int place = random.nextInt(broken.length());
            String signs = "[]<>=+-*/%; 0129az#Z" + (char) 200;
            char sign = signs.charAt(random.nextInt(signs.length()));
            switch (random.nextInt(3)) {
                case 0 -> broken.deleteCharAt(place);
                case 1 -> broken.setCharAt(place, sign);
                default -> broken.insert(place, sign);
            }
        }
        return broken.length() > 400 ? broken.substring(0, 400) : broken.toString();
    }
}
