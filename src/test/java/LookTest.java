/** Promises 9 to 12 and 43: bend, village, log, notch, count. */
public final class LookTest {
    private static final Check CHECK = new Check("LookTest");
    private static final int FAR = Integer.MAX_VALUE;

    public static void main(String[] args) {
        bend();
        village();
        log();
        prices();
        notch();
        count();
        CHECK.end();
    }

    private static void bend() {
        RaftForest x = Texts.forest("river 3;village 1;wood 1;width 1 3;log 0 1 1 0;log 0 1 1 0;log 0 1 1 0;log 0 1 1 0");
        CHECK.same("width", x.bend(1, 0), 3);
        CHECK.same("width without", x.bend(2, 0), 9);
        CHECK.same("room", x.bend(1, 3), 3);
        x.launch(3);
        x.launch(1);
        CHECK.same("logs", x.bend(1, 2), 10);
        CHECK.same("logs elsewhere", x.bend(0, 2), 0);
        CHECK.same("room less logs", x.bend(1, 3), 1);
        x.dam(1);
        CHECK.same("dams", x.bend(1, 1), 1);
        CHECK.same("room less dams", x.bend(1, 3), 0);
        x.dam(1);
        CHECK.same("room is 0 at least", x.bend(1, 3), 0);
        CHECK.same("width as told", x.bend(1, 0), 3);
        for (int[] no : new int[][] {{-1, 0}, {3, 0}, {9, 0}, {FAR, 0}, {1, -1}, {1, 4}, {1, FAR}, {-FAR, 0}}) {
            CHECK.same("bend(" + no[0] + ", " + no[1] + ")", x.bend(no[0], no[1]), -1);
        }
    }

    private static void village() {
        RaftForest x = Texts.forest("river 3;village 1;village 1;village 0;wood 4;log 0 5 1 0;log 0 5 1 1;log 0 2 1 0");
        Texts.rule(x, "take 1=2");
        CHECK.same("bend", x.village(2, 0), 0);
        CHECK.same("no rule", x.village(0, 1), -1);
        x.bind(0, 0);
        CHECK.same("rule", x.village(0, 1), 0);
        CHECK.same("ashore", x.village(0, 3), 5);
        CHECK.same("hers", x.village(0, 4), 5);
        x.launch(0);
        CHECK.same("ashore", x.village(0, 3), 4);
        CHECK.same("hers still", x.village(0, 4), 5);
        x.land(0, 1);
        CHECK.same("ashore at 1", x.village(1, 3), 3);
        CHECK.same("hers still", x.village(0, 4), 5);
        x.burn(0);
        CHECK.same("burnt is nobody's", x.village(0, 4), 4);
        CHECK.same("net of who is owed", x.village(0, 5), 20);
        CHECK.same("net of who owes", x.village(1, 5), -20);
        CHECK.same("net of a third", x.village(2, 5), 0);
        x.launch(2);
        x.days(2);
        CHECK.same("sold is nobody's", x.village(0, 4), 0);
        CHECK.same("coins", x.village(0, 2), 8);
        for (int[] no : new int[][] {{-1, 0}, {3, 0}, {6, 2}, {FAR, 0}, {0, -1}, {0, 6}, {0, FAR}}) {
            CHECK.same("village(" + no[0] + ", " + no[1] + ")", x.village(no[0], no[1]), -1000000);
        }
    }

    private static void log() {
        RaftForest x = Texts.forest("river 2;village 0;village 0;wood 4;wood 5;width 1 1;log 1 6 7 1;log 0 9 8 0;"
                + "log 0 3 3 0;log 0 1 1 0");
        int[] due = {1, 6, 7, 21, 1, 1, 30, 0, 0, 0, 0};
        for (int what = 0; what < due.length; what++) {
            CHECK.same("log(0, " + what + ")", x.log(0, what), due[what]);
        }
        x.ahead(0, 2);
        CHECK.same("place in the order", x.log(0, 9), 2);
        x.wedding(0);
        x.wedding(0);
        CHECK.same("weddings", x.log(1, 10), 2);
        CHECK.same("no weddings", x.log(0, 10), 0);
        x.launch(0);
        CHECK.same("in the water", x.log(0, 3), 0);
        x.cut(0, 0);
        CHECK.same("notches", x.log(0, 4), 2);
        x.launch(1);
        x.launch(2);
        x.dam(1);
        x.days(2);
        CHECK.same("jams", x.log(0, 7), 2);
        CHECK.same("jams on end", x.log(0, 8), 2);
        x.flood(0);
        x.days(2);
        CHECK.same("the first one is sold", x.log(0, 3), 40);
        CHECK.same("its jams", x.log(0, 7), 2);
        CHECK.same("it jams no more", x.log(0, 8), 0);
        CHECK.same("price of one sold", x.log(0, 6), 30);
        CHECK.same("its owner", x.log(0, 5), 1);
        x.burn(3);
        CHECK.same("burnt", x.log(3, 3), 41);
        CHECK.same("price of one burnt", x.log(3, 6), 0);
        CHECK.same("its owner", x.log(3, 5), 0);
        CHECK.same("its length", x.log(3, 1), 1);
        for (int[] no : new int[][] {{-1, 0}, {4, 0}, {12, 0}, {FAR, 0}, {0, -1}, {0, 11}, {0, FAR}}) {
            CHECK.same("log(" + no[0] + ", " + no[1] + ")", x.log(no[0], no[1]), -2);
        }
    }

    private static void prices() {
        RaftForest x = Texts.forest("river 4;village 1;village 3;wood 10;toll 7;log 0 3 1 0;log 0 2 1 0;log 0 3 1 1");
        CHECK.same("three bends of toll", x.log(0, 6), 9);
        CHECK.same("0 at least", x.log(1, 6), 0);
        CHECK.same("one bend of toll", x.log(2, 6), 23);
        x.launch(0);
        CHECK.same("in the water there", x.log(0, 6), 9);
        x.days(1);
        CHECK.same("a bend farther", x.log(0, 6), 16);
        x.saw(0, 1);
        CHECK.same("shorter", x.log(0, 6), 6);
        x.days(2);
        CHECK.same("at the mouth", x.log(0, 6), 20);
        CHECK.same("paid", x.village(0, 2), 20);
    }

    private static void notch() {
        RaftForest x = Texts.forest("river 2;village 0;village 0;wood 1;log 0 1 1 1");
        x.launch(0);
        x.cut(0, 0);
        CHECK.same("first", x.notch(0, 0), 1);
        CHECK.same("second", x.notch(0, 1), 0);
        CHECK.same("no third", x.notch(0, 2), -1);
        CHECK.same("place -1", x.notch(0, -1), -1);
        CHECK.same("place 6", x.notch(0, 6), -1);
        CHECK.same("place far", x.notch(0, FAR), -1);
        CHECK.same("no log", x.notch(1, 0), -2);
        CHECK.same("log -1", x.notch(-1, 0), -2);
        x.undo();
        CHECK.same("no second", x.notch(0, 1), -1);
    }

    private static void count() {
        RaftForest x = Texts.forest("river 3;village 0;village 1;wood 7;wood 1;toll 2;width 1 1;"
                + "log 0 5 1 0;log 0 4 1 0;log 0 3 1 0;log 0 2 1 1;log 0 1 1 1");
        Texts.rule(x, "jam log=2;mine 1 if 1=2");
        x.force(0);
        x.launch(0);
        x.launch(1);
        x.launch(2);
        x.dam(2);
        x.cut(0, 0);
        x.cut(1, 0);
        x.wedding(0);
        x.wedding(1);
        x.sight(0, 0, -1);
        x.seed(5);
        x.burn(4);
        x.law(3, 0);
        x.days(4);
        x.flood(9);
        x.feed(0, 0, 0, 0, 0);
        // log 0 is sold on day 3 as drift: 35 are 17 for each, 1 for the sea; log 1 a day later: 28 are 14 each
        int[] due = {3, 2, 2, 5, 1, 0, 3, 4, 59, 1, 2, 1, 1, 2, 1, 2, 5, 5, 20, 2};
        for (int what = 0; what < due.length; what++) {
            CHECK.same("count(" + what + ")", x.count(what), due[what]);
        }
        CHECK.same("coins of 0", x.village(0, 2), 31);
        CHECK.same("coins of 1", x.village(1, 2), 31);
        RaftForest y = Texts.forest("river 2;village 0;wood 1;log 0 1 1 0;log 0 1 1 0");
        Texts.rule(y, "jam log=0");
        y.force(0);
        y.launch(0);
        y.days(2);
        CHECK.same("jams in all: of the first log, too", y.count(16), 2);
        for (int no : new int[] {-1, 20, FAR, -FAR}) {
            CHECK.same("count(" + no + ")", x.count(no), -1);
        }
    }
}
