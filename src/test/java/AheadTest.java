/** Promise 30: letAhead. */
public final class AheadTest {
    private static final Check CHECK = new Check("AheadTest");

    public static void main(String[] args) {
        wrong();
        rows();
        amongThemselves();
        sixAndSeven();
        nothingInWater();
        CHECK.end();
    }

    private static void wrong() {
        RaftForest x = new RaftForest();
        CHECK.same("without a river", x.letAhead(0, 0), -1);
        Texts.river(x, "river 2;village 0;wood 1;log 0 1 1 0");
        for (int[] no : new int[][] {{-1, 0}, {21, 0}, {0, -1}, {0, 7}, {Integer.MAX_VALUE, 0}, {0, Integer.MIN_VALUE}}) {
            CHECK.same("letAhead(" + no[0] + ", " + no[1] + ")", x.letAhead(no[0], no[1]), -1);
        }
        CHECK.same("none in the water", x.letAhead(0, 1), -2);
        CHECK.same("20 days", x.letAhead(20, 0), 0);
    }

    private static void rows() {
        // 2 is below, and there is room for one beside it: 2 first, then 0 of those alike
        RaftForest x = Texts.forest("river 3;village 0;village 1;wood 1;width 1 1;width 2 1;"
                + "log 0 1 1 0;log 0 1 1 0;log 0 1 1 1");
        for (int log = 0; log < 3; log++) {
            x.launch(log);
        }
        row(x, 0, 0, 0, 1, 2);
        // in the ORDER 0, 1, 2 both would jam; 0, 2, 1 is the first by which one does
        CHECK.same("as it is", x.floats(1, 0), 2);
        row(x, 1, 1, 0, 2, 1);
        // in 2 DAYS the one behind jams again, unless 2 and 0 go on in time
        row(x, 2, 1, 2, 0, 1);
        CHECK.same("the order stays", x.log(2, 9), 2);
        CHECK.same("nothing jams", x.count(16), 0);
        // the row is not that of the ORDER as it is, but the least as a row
        x.ahead(2, 0);
        x.ahead(1, 1);
        row(x, 0, 0, 0, 1, 2);
    }

    /** LOGS that are not in the WATER keep their places in the ORDER. */
    private static void amongThemselves() {
        RaftForest x = Texts.forest("river 2;village 0;wood 1;width 1 1;width 0 2;log 0 1 1 0;log 0 1 1 0;log 0 1 1 0;"
                + "log 0 1 1 0");
        Texts.rule(x, "jam log=3 and day=2;add log=2");
        x.ahead(3, 0);
        x.ahead(2, 1);
        x.launch(3);
        x.launch(0);
        x.force(0);
        x.bind(0, 0);
        // places 0 and 2 of the ORDER are theirs; 2 stands at 1, between them
        row(x, 1, 1, 0, 3);
        row(x, 2, 2, 0, 3);
        // 0, 2, 3: 3 jams on the DAYS 0, 1 and 2; 3, 2, 0: 0 jams on the DAYS 0 and 1
        row(x, 3, 2, 3, 0);
    }

    private static void sixAndSeven() {
        StringBuilder text = new StringBuilder("river 2;village 0;wood 1;width 1 1");
        for (int log = 0; log < 7; log++) {
            text.append(";log 0 1 1 0");
        }
        RaftForest x = Texts.forest(text.toString());
        Texts.rule(x, "jam room=1 and not log=5;jam bend=1 and not log=5");
        x.force(0);
        for (int log = 0; log < 6; log++) {
            x.launch(log);
        }
        CHECK.same("six: jams", x.letAhead(1, 0), 5);
        x.launch(6);
        CHECK.same("seven in the water", x.letAhead(1, 0), -1);
        CHECK.same("seven in the water", x.letAhead(0, 1), -1);
        x.land(0, 0);
        CHECK.same("six again", x.letAhead(0, 1), 1);
        CHECK.same("the sixth", x.letAhead(0, 6), 6);
        // only the last of all rows is without a jam on the first DAY: each waits for those of greater numbers
        RaftForest y = Texts.forest("river 2;village 0;wood 1;width 1 6" + ";log 0 1 1 0".repeat(6));
        Texts.rule(y, "jam bend=0 and not room=log+1");
        y.force(0);
        for (int log = 0; log < 6; log++) {
            y.launch(log);
        }
        row(y, 1, 0, 5, 4, 3, 2, 1, 0);
    }

    /** JAMS of LOGS that come into the WATER on the way count, too. */
    private static void nothingInWater() {
        RaftForest x = Texts.forest("river 2;village 0;wood 1;log 0 1 1 0");
        Texts.rule(x, "add 1=1;jam 1=1");
        x.bind(0, 0);
        x.force(0);
        CHECK.same("it is added", x.letAhead(1, 0), 0);
        CHECK.same("it jams", x.letAhead(2, 0), 1);
        CHECK.same("and on", x.letAhead(20, 0), 19);
        CHECK.same("no row", x.letAhead(20, 1), -2);
        CHECK.same("no row", x.letAhead(20, 6), -2);
    }

    private static void row(RaftForest x, int n, int jams, int... logs) {
        CHECK.same("letAhead(" + n + ", 0)", x.letAhead(n, 0), jams);
        for (int i = 0; i < 6; i++) {
            CHECK.same("letAhead(" + n + ", " + (i + 1) + ")", x.letAhead(n, i + 1), i < logs.length ? logs[i] : -2);
        }
    }
}
