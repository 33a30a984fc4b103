/** Promises 33 to 37: was, wereAt, likely, sight, parted. */
public final class PastTest {
    private static final Check CHECK = new Check("PastTest");
    private static final int FAR = Integer.MAX_VALUE;

    public static void main(String[] args) {
        was();
        wereAt();
        likely();
        sight();
        parted();
        partedDays();
        CHECK.end();
    }

    private static void was() {
        RaftForest x = Texts.forest("river 3;village 0;village 2;wood 1;log 0 1 1 0;log 0 1 1 1");
        CHECK.same("nothing is kept", x.was(0, 1), -2);
        x.days(1);
        CHECK.same("ashore", x.was(0, 1), 20);
        CHECK.same("ashore at 1", x.was(1, 1), 21);
        x.launch(0);
        CHECK.same("what is now is nothing", x.was(0, 1), 20);
        x.days(3);
        x.burn(1);
        x.days(1);
        int[] due = {40, 40, 2, 1, 20};
        for (int ago = 1; ago <= 5; ago++) {
            CHECK.same("was(0, " + ago + ")", x.was(0, ago), due[ago - 1]);
        }
        CHECK.same("burnt", x.was(1, 1), 41);
        CHECK.same("ashore then", x.was(1, 2), 21);
        for (int[] no : new int[][] {{0, 0}, {0, -1}, {0, 6}, {2, 1}, {-1, 1}, {0, FAR}, {FAR, 1}, {0, -FAR}}) {
            CHECK.same("was(" + no[0] + ", " + no[1] + ")", x.was(no[0], no[1]), -2);
        }
        // 30 DAYS are kept
        x.days(25);
        CHECK.same("30 ago", x.was(0, 30), 20);
        CHECK.same("29 ago", x.was(0, 29), 1);
        x.days(1);
        CHECK.same("30 ago", x.was(0, 30), 1);
        CHECK.same("31 ago", x.was(0, 31), -2);
        x.days(60);
        CHECK.same("30 ago", x.was(0, 30), 40);
        // what would be is not kept
        x.floats(9, 0);
        x.drawn(1, 9, 0, 0);
        CHECK.same("31 ago", x.was(0, 31), -2);
    }

    /** A LOG that floats from BEND 0 on; villages 0 and 1 at BEND 1, 2 at 0, 3 at 3. */
    private static RaftForest floated() {
        RaftForest x = Texts.forest("river 5;village 1;village 1;village 0;village 3;wood 1;log 0 1 1 2");
        x.days(1);
        x.launch(0);
        x.days(4);
        // behind the DAYS 5 to 1 ago: ashore at 2, at BENDS 1, 2, 3, 4
        return x;
    }

    private static void wereAt() {
        RaftForest x = floated();
        CHECK.same("the first", x.wereAt(0, 5, 5), 4);
        CHECK.same("in the water at a bend of two", x.wereAt(0, 4, 4), 3);
        CHECK.same("nobody there", x.wereAt(0, 3, 3), 0);
        CHECK.same("in the water at hers", x.wereAt(0, 2, 2), 8);
        CHECK.same("from 5 to 1", x.wereAt(0, 5, 1), 15);
        CHECK.same("from 4 to 3", x.wereAt(0, 4, 3), 3);
        CHECK.same("from 3 to 1", x.wereAt(0, 3, 1), 8);
        CHECK.same("1", x.wereAt(0, 1, 1), 0);
        for (int[] no : new int[][] {{0, 6, 1}, {0, 1, 2}, {0, 1, 0}, {0, 0, 0}, {1, 1, 1}, {-1, 1, 1}, {0, FAR, 1},
            {0, -1, -1}}) {
            CHECK.same("wereAt(" + no[0] + ", " + no[1] + ", " + no[2] + ")", x.wereAt(no[0], no[1], no[2]), -1);
        }
        x.days(60);
        CHECK.same("30", x.wereAt(0, 30, 1), 0);
        CHECK.same("31", x.wereAt(0, 31, 1), -1);
    }

    private static void likely() {
        RaftForest x = floated();
        likely(x, 5, 5, 2, 1, 1);
        likely(x, 5, 5, 0, 0, 1);
        likely(x, 4, 4, 0, 1, 2);
        likely(x, 4, 4, 1, 1, 2);
        likely(x, 5, 4, 0, 1, 4);
        likely(x, 5, 4, 2, 1, 2);
        // the DAY that is nobody's is lost: nobody has it, but it counts
        likely(x, 4, 3, 0, 1, 4);
        likely(x, 5, 1, 3, 1, 5);
        likely(x, 5, 1, 0, 1, 10);
        likely(x, 3, 3, 0, 0, 1);
        int[][] wrong = {{0, 6, 1, 0, 0}, {0, 1, 2, 0, 0}, {0, 1, 0, 0, 0}, {1, 1, 1, 0, 0}, {0, 1, 1, 4, 0},
            {0, 1, 1, -1, 0}, {0, 1, 1, 0, 2}, {0, 1, 1, 0, -1}, {-1, 1, 1, 0, 0}, {0, FAR, 1, 0, 0}};
        for (int[] no : wrong) {
            CHECK.same("likely(" + java.util.Arrays.toString(no) + ")", x.likely(no[0], no[1], no[2], no[3], no[4]), -1);
        }
        // shared by six, by three, by one
        RaftForest y = Texts.forest("river 3" + ";village 0".repeat(6) + ";wood 1;log 0 1 1 0");
        Texts.rule(y, "jam 1=1");
        y.force(0);
        y.launch(0);
        y.days(2);
        y.land(0, 4);
        y.days(2);
        likely(y, 4, 1, 0, 1, 12);
        likely(y, 4, 1, 4, 7, 12);
        likely(y, 3, 1, 4, 13, 18);
        RaftForest z = Texts.forest("river 3" + ";village 0".repeat(5) + ";wood 1;log 0 1 1 0");
        Texts.rule(z, "jam 1=1");
        z.force(0);
        z.launch(0);
        z.days(30);
        likely(z, 30, 1, 4, 1, 5);
        likely(z, 7, 1, 4, 1, 5);
    }

    private static void likely(RaftForest x, int from, int to, int village, int above, int below) {
        String call = "likely(0, " + from + ", " + to + ", " + village + ", ";
        CHECK.same(call + "0)", x.likely(0, from, to, village, 0), above);
        CHECK.same(call + "1)", x.likely(0, from, to, village, 1), below);
    }

    private static void sight() {
        RaftForest x = new RaftForest();
        CHECK.same("none without a river", x.sight(-1, 9, 9), 0);
        CHECK.same("without a river", x.sight(0, 0, 0), -2);
        Texts.river(x, "river 2;village 0;wood 1;log 0 1 1 0;log 0 1 1 0");
        CHECK.same("one", x.sight(0, 0, 0), 1);
        CHECK.same("two", x.sight(1, 5, -1), 2);
        int[][] wrong = {{2, 0, 0}, {-2, 0, 0}, {0, -1, 0}, {0, 6, 0}, {0, 0, 1}, {0, 0, -2}, {FAR, 0, 0}};
        for (int[] no : wrong) {
            CHECK.same("sight(" + no[0] + ", " + no[1] + ", " + no[2] + ")", x.sight(no[0], no[1], no[2]), -2);
        }
        CHECK.same("two", x.count(14), 2);
        for (int i = 3; i <= 20; i++) {
            CHECK.same("sight " + i, x.sight(0, 0, 0), i);
        }
        CHECK.same("a 21st", x.sight(0, 0, 0), -2);
        CHECK.same("20", x.count(14), 20);
        CHECK.same("none", x.sight(-1, -5, 77), 0);
        CHECK.same("none", x.count(14), 0);
        CHECK.same("one again", x.sight(1, 1, 0), 1);
    }

    private static void parted() {
        RaftForest x = Texts.forest("river 2;village 0;village 1;wood 1;log 0 1 1 0;log 0 1 1 0");
        CHECK.same("no sights", x.parted(0, 0, 0), -2);
        x.sight(0, 0, 0);
        CHECK.same("one sight", x.parted(0, 0, 0), -2);
        x.sight(0, 1, 1);
        x.sight(1, 0, 1);
        CHECK.same("of another place, of another log", x.parted(0, 0, 0), -2);
        x.sight(0, 0, 0);
        CHECK.same("as the one ahead", x.parted(0, 0, 0), -2);
        x.days(2);
        x.sight(0, 0, -1);
        x.days(1);
        x.sight(0, 0, 1);
        CHECK.same("the first that parts", x.parted(0, 0, 0), 4);
        CHECK.same("the day of the one ahead", x.parted(0, 0, 1), 0);
        CHECK.same("its day", x.parted(0, 0, 2), 2);
        CHECK.same("who", x.parted(0, 0, 3), 1);
        CHECK.same("another place", x.parted(0, 1, 0), -2);
        CHECK.same("another log", x.parted(1, 0, 0), -2);
        int[][] wrong = {{2, 0, 0}, {-1, 0, 0}, {0, -1, 0}, {0, 6, 0}, {0, 0, 4}, {0, 0, -1}, {0, FAR, 0}};
        for (int[] no : wrong) {
            CHECK.same("parted(" + no[0] + ", " + no[1] + ", " + no[2] + ")", x.parted(no[0], no[1], no[2]), -1);
        }
        // on one DAY nobody was passed
        x.sight(-1, 0, 0);
        x.sight(0, 0, 0);
        x.sight(0, 0, 1);
        CHECK.same("on one day", x.parted(0, 0, 0), 1);
        CHECK.same("nobody", x.parted(0, 0, 3), 0);
    }

    /** Of the DAYS between, and no other ones. */
    private static void partedDays() {
        RaftForest x = Texts.forest("river 5;village 0;village 1;village 2;village 3;village 4;wood 1;log 0 1 1 0");
        x.launch(0);
        x.days(1);
        x.sight(0, 0, 0);
        x.days(2);
        x.sight(0, 0, 1);
        x.days(1);
        // DAYS 1 and 2: behind them it was at the BENDS 2 and 3
        CHECK.same("days", x.parted(0, 0, 1) * 10 + x.parted(0, 0, 2), 13);
        CHECK.same("who", x.parted(0, 0, 3), 4 + 8);
        CHECK.same("as wereAt", x.wereAt(0, 3, 2), 4 + 8);
        // as far as they are kept: when 28 DAYS more have passed, DAY 1 is 31 ago
        x.days(27);
        CHECK.same("both are kept", x.parted(0, 0, 3), 4 + 8);
        x.days(1);
        CHECK.same("day 2 is kept", x.parted(0, 0, 3), 8);
        x.days(1);
        CHECK.same("none is kept", x.parted(0, 0, 3), 0);
        CHECK.same("it is told still", x.parted(0, 0, 0), 1);
    }
}
