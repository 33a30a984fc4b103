/** Promises 28 and 29: days, floats. */
public final class DayTest {
    private static final Check CHECK = new Check("DayTest");
    private static final int FAR = Integer.MAX_VALUE;

    public static void main(String[] args) {
        days();
        lastDay();
        jams();
        mud();
        daysOnEnd();
        drift();
        takes();
        sixNotches();
        adds();
        turns();
        words();
        floats();
        CHECK.end();
    }

    private static void days() {
        RaftForest x = new RaftForest();
        CHECK.same("without a river", x.days(1), -2);
        Texts.river(x, "river 3;village 0;wood 2;toll 1;log 0 9 1 0");
        CHECK.same("days(0)", x.days(0), -2);
        CHECK.same("days(61)", x.days(61), -2);
        CHECK.same("days(-1)", x.days(-1), -2);
        CHECK.same("days(far)", x.days(FAR), -2);
        CHECK.same("nothing happens", x.count(7), 0);
        x.launch(0);
        CHECK.same("a day", x.days(1), 1);
        CHECK.same("floats", x.log(0, 3), 1);
        CHECK.same("a day", x.days(1), 2);
        CHECK.same("floats", x.log(0, 3), 2);
        CHECK.same("no coins yet", x.village(0, 2), 0);
        CHECK.same("a day", x.days(1), 3);
        CHECK.same("sold", x.log(0, 3), 40);
        CHECK.same("without a toll", x.village(0, 2), 18);
        CHECK.same("60 days", x.days(60), 63);
        CHECK.same("sold once", x.village(0, 2), 18);
    }

    private static void lastDay() {
        RaftForest x = Texts.forest("river 2;village 0;wood 1;log 0 1 1 0");
        for (int i = 0; i < 166; i++) {
            x.days(60);
        }
        CHECK.same("day", x.count(7), 9960);
        CHECK.same("it would be above 9999", x.days(40), -2);
        CHECK.same("day", x.count(7), 9960);
        CHECK.same("the last one", x.days(39), 9999);
        CHECK.same("no more", x.days(1), -2);
        // what would be goes on without the DAY
        Texts.rule(x, "jam day=9999");
        x.force(0);
        x.launch(0);
        CHECK.same("jams at 9999 on and on", x.floats(5, 0), 5);
    }

    private static void jams() {
        RaftForest x = Texts.forest("river 3;village 0;village 1;wood 1;width 1 1;log 0 1 1 0;log 0 1 1 0;log 0 1 1 1");
        x.launch(0);
        x.launch(1);
        x.launch(2);
        // in the ORDER 0, 1, 2 nobody makes way in time
        CHECK.same("jams", x.floats(1, 0), 2);
        x.ahead(2, 0);
        x.days(1);
        CHECK.same("2 made way", x.log(2, 3), 2);
        CHECK.same("0 floats", x.log(0, 3), 1);
        CHECK.same("1 jams", x.log(1, 3), 0);
        CHECK.same("its jams", x.log(1, 7), 1);
        // the MOUTH has room for all, a jam TEST holds there too
        RaftForest y = Texts.forest("river 2;village 1;wood 1;log 0 1 1 0;log 0 1 1 0");
        Texts.rule(y, "jam log=1 and bend=1");
        y.launch(0);
        y.launch(1);
        y.force(0);
        y.days(1);
        CHECK.same("0 is sold", y.log(0, 3), 40);
        CHECK.same("1 jams", y.log(1, 3), 1);
        // a RULE that is only a VILLAGE's jams nothing
        y.force(-1);
        y.bind(0, 0);
        y.days(1);
        CHECK.same("1 is sold", y.log(1, 3), 40);
    }

    private static void mud() {
        RaftForest x = Texts.forest("river 2;village 0;village 0;wood 1;log 0 1 1 0");
        Texts.rule(x, "jam 1=1");
        x.force(0);
        x.launch(0);
        x.cut(0, 1);
        int[] onEnd = {1, 2, 0, 1, 2, 0, 1, 2, 0};
        int[] notches = {2, 2, 1, 1, 1, 0, 0, 0, 0};
        for (int i = 0; i < 9; i++) {
            x.days(1);
            CHECK.same("on end behind day " + i, x.log(0, 8), onEnd[i]);
            CHECK.same("notches behind day " + i, x.log(0, 4), notches[i]);
            CHECK.same("jams behind day " + i, x.log(0, 7), i + 1);
        }
        CHECK.same("the first one fades last", x.log(0, 5), -1);
    }

    private static void daysOnEnd() {
        // a DAY on which it floats ends them
        RaftForest x = Texts.forest("river 4;village 0;wood 1;log 0 1 1 0");
        Texts.rule(x, "jam not day=2");
        x.force(0);
        x.launch(0);
        x.days(2);
        CHECK.same("two", x.log(0, 8), 2);
        x.days(1);
        CHECK.same("none", x.log(0, 8), 0);
        x.days(2);
        CHECK.same("two", x.log(0, 8), 2);
        CHECK.same("nothing faded", x.log(0, 4), 1);
        // and so does a DAY ashore
        RaftForest y = Texts.forest("river 4;village 0;wood 1;log 0 1 1 0");
        Texts.rule(y, "jam 1=1");
        y.force(0);
        y.launch(0);
        y.days(2);
        y.land(0, 0);
        y.days(1);
        y.launch(0);
        CHECK.same("none", y.log(0, 8), 0);
        y.days(2);
        CHECK.same("two", y.log(0, 8), 2);
        CHECK.same("nothing faded", y.log(0, 4), 1);
    }

    private static void drift() {
        RaftForest x = Texts.forest("river 2;village 0;village 1;village 1;wood 10;log 0 2 1 0;toll 3");
        Texts.rule(x, "jam day<3");
        x.force(0);
        x.launch(0);
        CHECK.same("price", x.log(0, 6), 14);
        x.days(5);
        CHECK.same("sold", x.log(0, 3), 40);
        for (int village = 0; village < 3; village++) {
            CHECK.same("alike", x.village(village, 2), 6);
        }
        CHECK.same("the rest", x.count(12), 2);
        RaftForest y = Texts.forest("river 2;village 0;wood 10;log 0 2 1 0");
        Texts.rule(y, "jam day<3");
        y.force(0);
        y.launch(0);
        y.days(5);
        CHECK.same("all to the one village", y.village(0, 2), 20);
        CHECK.same("no rest", y.count(12), 0);
    }

    private static void takes() {
        RaftForest x = Texts.forest("river 3;village 0;village 1;village 1;wood 3;toll 1;"
                + "log 0 5 1 0;log 0 6 1 0;log 0 7 1 1");
        Texts.rule(x, "take log=0 or log=2");
        Texts.rule(x, "take village=2");
        x.bind(1, 0);
        x.bind(2, 1);
        for (int log = 0; log < 3; log++) {
            x.launch(log);
        }
        CHECK.same("taken", x.floats(1, 3), 2);
        x.days(1);
        CHECK.same("by the first village", x.log(0, 3), 21);
        CHECK.same("her notch behind", x.notch(0, 1), 1);
        CHECK.same("what the first one leaves", x.log(1, 3), 22);
        CHECK.same("2 has floated on first", x.log(2, 3), 2);
        CHECK.same("debt by the price there", x.owes(1, 0), 13);
        CHECK.same("debt", x.owes(2, 0), 16);
        CHECK.same("the owner stays by law 0", x.log(0, 5), 0);
        // her own LOG: no debt
        RaftForest y = Texts.forest("river 2;village 0;village 1;wood 3;log 0 5 1 1");
        Texts.rule(y, "take 1=1");
        Texts.rule(y, "jam 1=1");
        y.bind(1, 0);
        y.force(1);
        y.launch(0);
        y.days(1);
        CHECK.same("taken", y.log(0, 3), 21);
        CHECK.same("two notches", y.log(0, 4), 2);
        CHECK.same("no debt", y.village(1, 5), 0);
        // a VILLAGE without a RULE takes nothing, nor does one at another BEND
        RaftForest z = Texts.forest("river 3;village 0;village 1;wood 3;log 0 5 1 0");
        Texts.rule(z, "take 1=1");
        z.bind(0, 0);
        z.force(0);
        z.launch(0);
        z.days(1);
        CHECK.same("floats by", z.log(0, 3), 1);
        // by LAW 1 the owner is another one behind it: who was it ahead is owed
        RaftForest w = Texts.forest("river 3;village 0;village 1;wood 3;log 0 5 1 0");
        Texts.rule(w, "take 1=1");
        w.bind(1, 0);
        w.law(1, 0);
        w.launch(0);
        w.days(1);
        CHECK.same("hers now", w.log(0, 5), 1);
        CHECK.same("owed", w.owes(1, 0), 15);
    }

    private static void sixNotches() {
        RaftForest x = Texts.forest("river 2;village 0;village 1;wood 3;log 0 5 1 0");
        Texts.rule(x, "take 1=1");
        x.bind(1, 0);
        for (int i = 0; i < 5; i++) {
            x.cut(0, 0);
        }
        x.launch(0);
        x.days(1);
        CHECK.same("taken", x.log(0, 3), 21);
        CHECK.same("six still", x.log(0, 4), 6);
        CHECK.same("the last is hers", x.notch(0, 5), 1);
        CHECK.same("the one ahead is not", x.notch(0, 4), 0);
        CHECK.same("what was cut by hand does not stand", x.undo(), -2);
    }

    private static void adds() {
        RaftForest x = Texts.forest("river 3;village 0;wood 1;width 0 2;log 0 1 1 0;log 0 1 1 0;log 0 1 1 0;log 0 1 1 0");
        Texts.rule(x, "add not log=1");
        x.bind(0, 0);
        CHECK.same("added", x.floats(1, 4), 2);
        x.days(1);
        CHECK.same("0 and 2, then there is no room", x.bend(0, 2), 5);
        CHECK.same("they do not float on that day", x.bend(1, 2), 0);
        x.days(1);
        CHECK.same("then they do", x.bend(1, 2), 5);
        CHECK.same("3 comes", x.bend(0, 2), 8);
        CHECK.same("1 stays", x.log(1, 3), 20);
        // what is TAKEN on a DAY is not added on it
        RaftForest y = Texts.forest("river 3;village 1;village 0;wood 1;log 0 1 1 1");
        Texts.rule(y, "take notches<4;add 1=1");
        y.bind(0, 0);
        y.launch(0);
        y.days(1);
        CHECK.same("taken", y.log(0, 3), 20);
        y.days(1);
        CHECK.same("added", y.log(0, 3), 1);
        CHECK.same("one notch more", y.log(0, 4), 2);
        y.days(1);
        CHECK.same("floats", y.log(0, 3), 2);
    }

    /** VILLAGES by numbers, each with both: what one has added another one of the BEND can take on that DAY. */
    private static void turns() {
        RaftForest x = Texts.forest("river 2;village 0;village 0;wood 4;log 0 3 1 0;log 0 5 1 1");
        Texts.rule(x, "take 1=1;add 1=1");
        x.bind(0, 0);
        x.bind(1, 0);
        CHECK.same("taken", x.floats(1, 3), 1);
        CHECK.same("added", x.floats(1, 4), 2);
        x.days(1);
        CHECK.same("0 went from one to the other", x.log(0, 3), 21);
        CHECK.same("1 came into the water", x.log(1, 3), 0);
        CHECK.same("owed", x.owes(1, 0), 12);
    }

    /** The WORDS of take and add TESTS. */
    private static void words() {
        takeWord("village", 1);
        takeWord("owner", 0);
        takeWord("room", 3);
        takeWord("bend", 1);
        takeWord("notches", 1);
        takeWord("day", 4);
        addWord("village", 1);
        addWord("owner", 1);
        addWord("room", 5);
        addWord("bend", 2);
        addWord("last", 1);
        addWord("water", 50);
    }

    private static void takeWord(String word, int value) {
        for (int near = Math.max(0, value - 1); near <= value + 1; near++) {
            RaftForest x = Texts.forest("river 4;village 0;village 1;wood 1;width 2 5;log 0 1 1 0;log 0 2 2 1");
            Texts.rule(x, "take log=0 and " + word + "=" + near);
            Texts.rule(x, "jam log=1");
            x.days(3);
            x.launch(1);
            x.days(1);
            x.force(1);
            x.dam(2);
            x.launch(0);
            x.bind(1, 0);
            x.days(1);
            CHECK.same("take " + word + "=" + near, x.log(0, 3), near == value ? 21 : 1);
        }
    }

    private static void addWord(String word, int value) {
        for (int near = Math.max(0, value - 1); near <= value + 1; near++) {
            RaftForest x = Texts.forest("river 4;village 0;village 2;wood 1;width 2 7;log 0 1 1 0;log 0 2 2 1;log 0 1 1 1");
            Texts.rule(x, "add log=1 and " + word + "=" + near);
            Texts.rule(x, "jam 1=1");
            x.force(1);
            x.launch(2);
            x.dam(2);
            x.bind(1, 0);
            x.days(1);
            CHECK.same("add " + word + "=" + near, x.log(1, 3), near == value ? 2 : 21);
        }
    }

    private static void floats() {
        RaftForest x = new RaftForest();
        CHECK.same("without a river", x.floats(0, 0), -1);
        Texts.river(x, "river 2;village 0;village 1;wood 2;width 1 1;log 0 5 1 0;log 0 6 1 0;log 0 7 1 0");
        Texts.rule(x, "take log=1;add day>3");
        x.bind(1, 0);
        for (int log = 0; log < 3; log++) {
            x.launch(log);
        }
        // day 0: 0 floats, 1 and 2 jam; 1: 0 is sold, 1 floats and is taken, 2 jams; 2: 2 floats; 3: 2 is sold;
        // 4: 1 is added; 5: 1 is sold
        int[][] due = {
            {0, 2, 3, 3, 3, 3, 3}, {0, 0, 1, 1, 2, 2, 3}, {0, 0, 10, 10, 24, 24, 36}, {0, 0, 1, 1, 1, 1, 1},
            {0, 0, 0, 0, 0, 1, 1}, {0, 0, 0, 0, 0, 0, 0}};
        for (int what = 0; what < due.length; what++) {
            for (int n = 0; n < due[what].length; n++) {
                CHECK.same("floats(" + n + ", " + what + ")", x.floats(n, what), due[what][n]);
            }
        }
        CHECK.same("60 days", x.floats(60, 1), 3);
        CHECK.same("nothing has changed", x.count(7) + x.count(16) + x.village(0, 2) + x.owes(1, 0), 0);
        CHECK.same("nothing is kept", x.was(0, 1), -2);
        CHECK.same("nothing was taken", x.bend(0, 2), 7);
        for (int[] no : new int[][] {{-1, 0}, {61, 0}, {0, -1}, {0, 6}, {FAR, 0}, {0, FAR}}) {
            CHECK.same("floats(" + no[0] + ", " + no[1] + ")", x.floats(no[0], no[1]), -1);
        }
        // NOTCHES faded: only those that there were
        RaftForest y = Texts.forest("river 2;village 0;wood 2;log 0 5 1 0");
        Texts.rule(y, "jam 1=1");
        y.force(0);
        y.launch(0);
        CHECK.same("faded behind 2", y.floats(2, 5), 0);
        CHECK.same("faded behind 3", y.floats(3, 5), 1);
        CHECK.same("faded behind 60", y.floats(60, 5), 1);
        y.days(2);
        CHECK.same("days on end go on", y.floats(1, 5), 1);
        CHECK.same("jams from now on", y.floats(1, 0), 1);
    }
}
