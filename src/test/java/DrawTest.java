/** Promises 41 and 42: seed, drawn. */
public final class DrawTest {
    private static final Check CHECK = new Check("DrawTest");
    private static final int FAR = Integer.MAX_VALUE;

    public static void main(String[] args) {
        seed();
        wrong();
        floods();
        jamsAndCoins();
        CHECK.end();
    }

    private static void seed() {
        RaftForest x = new RaftForest();
        CHECK.same("0 at first", x.seed(7), 0);
        CHECK.same("below 0", x.seed(-1), -1);
        CHECK.same("least", x.seed(Integer.MIN_VALUE), -1);
        CHECK.same("what it was", x.seed(FAR), 7);
        CHECK.same("x", x.count(17), FAR);
        CHECK.same("what it was", x.seed(0), FAR);
        x.seed(9);
        Texts.river(x, "river 2");
        CHECK.same("it stays with a river", x.count(17), 9);
    }

    private static void wrong() {
        CHECK.same("without a river", new RaftForest().drawn(1, 1, 0, 0), -1);
        RaftForest x = Texts.forest("river 2");
        int[][] wrong = {{0, 1, 0, 0}, {11, 1, 0, 0}, {1, 0, 0, 0}, {1, 61, 0, 0}, {1, 1, -1, 0}, {1, 1, 101, 0},
            {1, 1, 0, -1}, {1, 1, 0, 3}, {FAR, 1, 0, 0}, {1, FAR, 0, 0}, {1, 1, FAR, 0}, {-1, -1, -1, -1}};
        for (int[] no : wrong) {
            CHECK.same("drawn" + java.util.Arrays.toString(no), x.drawn(no[0], no[1], no[2], no[3]), -1);
        }
        CHECK.same("the most", x.drawn(10, 60, 100, 2), 600);
        CHECK.same("never", x.drawn(10, 60, 0, 2), 0);
    }

    /** FLOODS by the document's DRAWS, reckoned here once more: each DAY one, and one more for its FLOOD. */
    private static void floods() {
        for (int seed : new int[] {0, 1, 12345, FAR, 987654321}) {
            for (int p : new int[] {0, 1, 30, 50, 99, 100}) {
                RaftForest x = Texts.forest("river 2");
                x.seed(seed);
                long drawn = seed;
                int floods = 0;
                for (int day = 0; day < 3 * 20; day++) {
                    drawn = (drawn * 1103515245L + 12345) % 2147483648L;
                    if (drawn / 65536 % 100 < p) {
                        floods++;
                        drawn = (drawn * 1103515245L + 12345) % 2147483648L;
                    }
                }
                CHECK.same("floods by " + seed + " and " + p, x.drawn(3, 20, p, 2), floods);
                CHECK.same("x is as it was", x.count(17), seed);
                CHECK.same("again", x.drawn(3, 20, p, 2), floods);
            }
        }
    }

    private static void jamsAndCoins() {
        RaftForest x = Texts.forest("river 2;village 0;wood 4;width 1 1;log 0 5 1 0;log 0 6 1 0;log 0 7 1 0");
        for (int log = 0; log < 3; log++) {
            x.launch(log);
        }
        CHECK.same("jams without floods", x.drawn(1, 4, 0, 0), x.floats(4, 0));
        CHECK.same("coins without floods", x.drawn(1, 4, 0, 1), x.floats(4, 2));
        CHECK.same("all together", x.drawn(10, 4, 0, 0), 10 * x.floats(4, 0));
        CHECK.same("all together", x.drawn(10, 60, 0, 1), 10 * 72);
        // a FLOOD takes DAMS away ahead of its DAY
        x.dam(1);
        CHECK.same("with the dam", x.floats(2, 0), 6);
        CHECK.same("the flood comes first", x.drawn(1, 2, 100, 0), 2 + 1);
        CHECK.same("each time from now", x.drawn(5, 2, 100, 0), 15);
        CHECK.same("the dam stays", x.bend(1, 1), 1);
        CHECK.same("water stays", x.count(8), 50);
        CHECK.same("day stays", x.count(7), 0);
        CHECK.same("logs stay", x.bend(0, 2), 7);
        // and elects anew: by the WATER that the second DRAW brings
        RaftForest y = Texts.forest("river 2;village 0;wood 1;width 1 1;log 0 1 1 0;log 0 90 1 0");
        Texts.rule(y, "elect log if water=55;elect 1-log");
        y.force(0);
        y.launch(0);
        y.launch(1);
        for (int seed = 0; seed < 40; seed++) {
            y.seed(seed * 1000003);
            long first = (seed * 1000003L * 1103515245L + 12345) % 2147483648L;
            long second = (first * 1103515245L + 12345) % 2147483648L;
            boolean one = second / 65536 % 10 == 5;
            // who floats first is sold on the second DAY, whatever that brings
            CHECK.same("coins by " + seed, y.drawn(1, 2, 100, 1), one ? 90 : 1);
        }
    }
}
