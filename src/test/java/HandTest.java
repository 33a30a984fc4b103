/** Promises 16 to 20: launch, land, burn, saw, ahead. */
public final class HandTest {
    private static final Check CHECK = new Check("HandTest");
    private static final int FAR = Integer.MAX_VALUE;

    public static void main(String[] args) {
        launchAndLand();
        burn();
        saw();
        ahead();
        CHECK.end();
    }

    private static RaftForest forest() {
        return Texts.forest("river 3;village 1;village 1;village 2;wood 3;width 1 2;toll 1;"
                + "log 0 5 1 0;log 0 6 1 1;log 0 7 1 0;log 0 8 1 2");
    }

    private static void launchAndLand() {
        RaftForest x = forest();
        CHECK.same("launch", x.launch(0), 1);
        CHECK.same("where", x.log(0, 3), 1);
        CHECK.same("already", x.launch(0), -2);
        CHECK.same("launch", x.launch(1), 1);
        CHECK.same("no room", x.launch(2), -2);
        CHECK.same("stays", x.log(2, 3), 20);
        CHECK.same("no log", x.launch(4), -2);
        CHECK.same("log -1", x.launch(-1), -2);
        CHECK.same("log far", x.launch(FAR), -2);
        CHECK.holds("land at another village of the bend", x.land(0, 1));
        CHECK.same("where", x.log(0, 3), 21);
        CHECK.same("no notch", x.log(0, 4), 1);
        CHECK.same("no debt", x.owes(1, 0), 0);
        CHECK.same("owner as it was", x.log(0, 5), 0);
        CHECK.holds("is ashore", !x.land(0, 1));
        CHECK.holds("village of another bend", !x.land(1, 2));
        CHECK.holds("no village", !x.land(1, 3));
        CHECK.holds("village -1", !x.land(1, -1));
        CHECK.holds("no log", !x.land(4, 0));
        CHECK.holds("log -1", !x.land(-1, 0));
        CHECK.same("stays", x.log(1, 3), 1);
        CHECK.same("room again", x.launch(2), 1);
        x.dam(2);
        x.days(2);
        CHECK.same("sold", x.log(1, 3), 40);
        CHECK.same("sold can't be launched", x.launch(1), -2);
        CHECK.holds("sold can't land", !x.land(1, 2));
        CHECK.same("burn", x.burn(3), 23);
        CHECK.same("burnt can't be launched", x.launch(3), -2);
    }

    private static void burn() {
        RaftForest x = forest();
        CHECK.same("her own", x.burn(2), 19);
        CHECK.same("where", x.log(2, 3), 41);
        CHECK.same("no debt", x.village(0, 5), 0);
        CHECK.same("again", x.burn(2), -2);
        x.launch(0);
        CHECK.same("in the water", x.burn(0), -2);
        x.land(0, 1);
        CHECK.same("another one's", x.burn(0), 13);
        CHECK.same("debt", x.owes(1, 0), 13);
        CHECK.same("no debt the other way", x.owes(0, 1), 0);
        CHECK.same("no log", x.burn(4), -2);
        CHECK.same("log -1", x.burn(-1), -2);
        CHECK.same("burnt", x.count(11), 2);
        // debts add up, and DRIFT is owed to nobody
        RaftForest y = Texts.forest("river 2;village 0;village 0;wood 1;log 0 5 1 0;log 0 6 1 0;log 0 7 1 0");
        Texts.rule(y, "jam 1=1");
        for (int log = 0; log < 3; log++) {
            y.launch(log);
        }
        y.land(0, 1);
        y.land(1, 1);
        y.burn(0);
        y.burn(1);
        CHECK.same("both", y.owes(1, 0), 11);
        y.force(0);
        y.days(3);
        y.land(2, 1);
        CHECK.same("drift", y.log(2, 5), -1);
        CHECK.same("drift burns", y.burn(2), 7);
        CHECK.same("nobody is owed", y.owes(1, 0), 11);
        CHECK.same("nobody else owes", y.owes(0, 1), 0);
        CHECK.same("what is owed in all", y.winter(99999), 11);
        RaftForest z = Texts.forest("river 2;village 0;wood 1;log 0 5 1 0");
        z.burn(0);
        CHECK.same("her own is no debt at all", z.winter(99999), 0);
        CHECK.same("net", z.village(0, 5), 0);
    }

    private static void saw() {
        RaftForest x = forest();
        CHECK.same("saw", x.saw(0, 2), 3);
        CHECK.same("length", x.log(0, 1), 3);
        CHECK.same("it would be 0", x.saw(0, 3), -2);
        CHECK.same("it would be below", x.saw(0, FAR), -2);
        CHECK.same("by 0", x.saw(0, 0), -2);
        CHECK.same("by -1", x.saw(0, -1), -2);
        CHECK.same("by least", x.saw(0, Integer.MIN_VALUE), -2);
        CHECK.same("to 1", x.saw(0, 2), 1);
        CHECK.same("no more", x.saw(0, 1), -2);
        CHECK.same("no log", x.saw(4, 1), -2);
        CHECK.same("log -1", x.saw(-1, 1), -2);
        x.launch(1);
        CHECK.same("in the water", x.saw(1, 1), 5);
        x.days(2);
        CHECK.same("sold", x.saw(1, 1), -2);
        x.burn(2);
        CHECK.same("burnt", x.saw(2, 1), -2);
        CHECK.same("the length stays", x.log(2, 1), 7);
    }

    private static void ahead() {
        RaftForest x = forest();
        CHECK.same("3 to 1", x.ahead(3, 1), 3);
        order(x, 0, 3, 1, 2);
        CHECK.same("0 to 2", x.ahead(0, 2), 0);
        order(x, 3, 1, 0, 2);
        CHECK.same("2 to 0", x.ahead(2, 0), 3);
        order(x, 2, 3, 1, 0);
        CHECK.same("1 to where it is", x.ahead(1, 2), 2);
        order(x, 2, 3, 1, 0);
        CHECK.same("2 to the end", x.ahead(2, 3), 0);
        order(x, 3, 1, 0, 2);
        CHECK.same("no log", x.ahead(4, 0), -2);
        CHECK.same("log -1", x.ahead(-1, 0), -2);
        CHECK.same("no place", x.ahead(0, 4), -2);
        CHECK.same("place -1", x.ahead(0, -1), -2);
        CHECK.same("place far", x.ahead(0, FAR), -2);
        order(x, 3, 1, 0, 2);
        // the ORDER tells who floats first: there is room for one
        RaftForest y = Texts.forest("river 2;village 0;wood 1;width 1 1;log 0 1 1 0;log 0 1 1 0");
        y.launch(0);
        y.launch(1);
        y.ahead(1, 0);
        y.days(1);
        CHECK.same("1 floats", y.log(1, 3), 1);
        CHECK.same("0 jams", y.log(0, 3), 0);
    }

    private static void order(RaftForest x, int... logs) {
        for (int place = 0; place < logs.length; place++) {
            CHECK.same("place of log " + logs[place], x.log(logs[place], 9), place);
        }
    }
}
