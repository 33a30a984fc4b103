/** Promises 21 to 25: dam, appeal, votes, flood, elected. */
public final class DamTest {
    private static final Check CHECK = new Check("DamTest");
    private static final int FAR = Integer.MAX_VALUE;

    public static void main(String[] args) {
        dam();
        votes();
        appeal();
        flood();
        elections();
        electWords();
        elected();
        CHECK.end();
    }

    private static void dam() {
        RaftForest x = Texts.forest("river 2;village 0;wood 1;log 0 1 1 0");
        CHECK.same("one", x.dam(1), 1);
        CHECK.same("two", x.dam(1), 2);
        CHECK.same("three", x.dam(1), 3);
        CHECK.same("a fourth", x.dam(1), -2);
        CHECK.same("three stay", x.bend(1, 1), 3);
        CHECK.same("of another bend", x.dam(0), 1);
        CHECK.same("no bend", x.dam(2), -2);
        CHECK.same("bend -1", x.dam(-1), -2);
        CHECK.same("bend far", x.dam(FAR), -2);
        // DAMS take room
        RaftForest y = Texts.forest("river 2;village 0;wood 1;width 1 2;width 0 1;log 0 1 1 0");
        y.launch(0);
        y.dam(1);
        CHECK.same("room for one", y.floats(1, 0), 0);
        y.dam(1);
        CHECK.same("no room", y.floats(1, 0), 1);
        y.land(0, 0);
        y.dam(0);
        CHECK.same("no room to launch", y.launch(0), -2);
    }

    /** LOGS of villages 0 to 3 in the WATER at BENDS 0 to 3, and one more of village 0 at BEND 3. */
    private static RaftForest spread() {
        RaftForest x = Texts.forest("river 4;village 0;village 1;village 2;village 3;village 3;wood 1;"
                + "log 0 1 1 0;log 0 1 1 1;log 0 1 1 2;log 0 1 1 3;log 0 1 1 3;log 0 1 1 4");
        for (int log = 0; log < 5; log++) {
            x.launch(log);
        }
        x.cutOver(4, 0, 4);
        x.law(1, 0);
        return x;
    }

    private static void votes() {
        RaftForest x = spread();
        int[] tear = {0, 1, 3, 7};
        int[] keep = {31, 30, 28, 24};
        for (int bend = 0; bend < 4; bend++) {
            CHECK.same("tearing at " + bend, x.votes(bend, 0), tear[bend]);
            CHECK.same("keeping at " + bend, x.votes(bend, 1), keep[bend]);
        }
        // who is for tearing it down is not for keeping it as well
        x.cutOver(1, 0, 1);
        x.cut(3, 3);
        RaftForest y = Texts.forest("river 3;village 0;village 2;wood 1;log 0 1 1 0;log 0 1 1 0;log 0 1 1 1");
        y.launch(0);
        y.days(1);
        y.launch(1);
        CHECK.same("tearing", y.votes(1, 0), 1);
        CHECK.same("keeping", y.votes(1, 1), 0);
        CHECK.same("a log ashore is no vote", y.votes(2, 1), 0);
        y.launch(2);
        CHECK.same("keeping", y.votes(1, 1), 2);
        CHECK.same("no bend", y.votes(3, 0), -1);
        CHECK.same("bend -1", y.votes(-1, 0), -1);
        CHECK.same("what 2", y.votes(0, 2), -1);
        CHECK.same("what -1", y.votes(0, -1), -1);
        // DRIFT is nobody's
        Texts.rule(y, "mine 1 if 1=2");
        y.law(3, 0);
        CHECK.same("no votes", y.votes(1, 0) + y.votes(1, 1), 0);
    }

    private static void appeal() {
        RaftForest x = spread();
        CHECK.same("there is none", x.appeal(3), -2);
        x.dam(3);
        x.dam(3);
        x.dam(2);
        CHECK.same("3 against 2: one goes", x.appeal(3), 1);
        CHECK.same("one stays", x.bend(3, 1), 1);
        CHECK.same("2 against 3", x.appeal(2), 0);
        CHECK.same("it stays", x.bend(2, 1), 1);
        CHECK.same("the other one goes", x.appeal(3), 1);
        CHECK.same("there is none", x.appeal(3), -2);
        CHECK.same("no bend", x.appeal(4), -2);
        CHECK.same("bend -1", x.appeal(-1), -2);
        // as many for as against: it stays
        RaftForest y = Texts.forest("river 2;village 0;village 1;wood 1;log 0 1 1 0;log 0 1 1 1");
        y.dam(1);
        CHECK.same("nobody votes", y.appeal(1), 0);
        y.launch(0);
        y.launch(1);
        CHECK.same("one against one", y.appeal(1), 0);
        y.land(1, 1);
        CHECK.same("one against none", y.appeal(1), 1);
    }

    private static void flood() {
        RaftForest x = new RaftForest();
        CHECK.same("without a river", x.flood(0), -2);
        Texts.river(x, "river 2;village 0;wood 1;log 0 1 1 0;log 0 1 1 0;log 0 1 1 0");
        CHECK.same("flood(0)", x.flood(0), 50);
        CHECK.same("flood(99)", x.flood(99), 149);
        CHECK.same("flood(100)", x.flood(100), -2);
        CHECK.same("flood(-1)", x.flood(-1), -2);
        CHECK.same("water stays", x.count(8), 149);
        for (int i = 0; i < 8; i++) {
            x.flood(99);
        }
        CHECK.same("water", x.count(8), 941);
        CHECK.same("999 at most", x.flood(99), 999);
        x.dam(0);
        x.dam(1);
        x.dam(1);
        x.ahead(2, 0);
        x.burn(1);
        CHECK.same("flood", x.flood(1), 999);
        CHECK.same("dams go", x.bend(0, 1) + x.bend(1, 1), 0);
        order(x, "by numbers, the burnt one behind", 0, 2, 1);
    }

    private static RaftForest five() {
        return Texts.forest("river 3;village 0;village 1;wood 1;wood 2;"
                + "log 0 5 9 0;log 1 7 9 0;log 0 5 8 1;log 1 1 7 1;log 0 9 6 1");
    }

    private static void elections() {
        elects("elect length", 4, 1, 0, 2, 3);
        elects("elect 0-length", 3, 0, 2, 1, 4);
        elects("elect 1", 0, 1, 2, 3, 4);
        elects("elect 99999*99999*9999*length", 4, 1, 0, 2, 3);
        // the first CLAUSE that holds, LOGS without one behind
        elects("elect 1 if wood=1;elect length if length>5", 4, 1, 3, 0, 2);
        elects("elect length if wood=1", 1, 3, 0, 2, 4);
        elects("elect 0-length if wood=0", 0, 2, 4, 1, 3);
        elects("elect 3;elect 100 if log=4", 0, 1, 2, 3, 4);
        elects("elect 1 if 1=2", 0, 1, 2, 3, 4);
        elects("jam 1=1;mine 5", 0, 1, 2, 3, 4);
        // 64 bits: the greatest goes round to the least
        elects("elect 65536*65536*65536*32768-log", 1, 2, 3, 4, 0);
        RaftForest x = five();
        Texts.rule(x, "elect length");
        x.force(0);
        x.burn(4);
        x.launch(2);
        x.launch(1);
        x.days(2);
        CHECK.same("2 is sold", x.log(2, 3), 40);
        x.flood(1);
        order(x, "sold and burnt behind", 1, 0, 3, 2, 4);
        x.force(-1);
        x.flood(1);
        order(x, "without a rule in force", 0, 1, 3, 2, 4);
    }

    private static void elects(String rule, int... logs) {
        RaftForest x = five();
        CHECK.same("rule " + rule, Texts.rule(x, rule), 0);
        x.ahead(3, 0);
        x.force(0);
        for (int place = 0; place < logs.length; place++) {
            CHECK.same(rule + ": elected", x.elected(place), logs[place]);
        }
        CHECK.same("nothing has changed", x.log(3, 9), 0);
        x.flood(5);
        order(x, rule, logs);
    }

    /** The WORDS of an elect CLAUSE: those of WATER and DAMS are as the FLOOD leaves them. */
    private static void electWords() {
        // room: 0 if it is not in the water; the next BEND's; 99 at the last one
        RaftForest x = Texts.forest("river 3;village 0;village 2;wood 1;width 1 4;"
                + "log 0 1 1 0;log 0 1 1 0;log 0 1 1 1;log 0 1 1 1");
        Texts.rule(x, "elect 2 if room=0;elect 3 if room=4;elect 1 if room=99;elect 9");
        Texts.rule(x, "elect water");
        Texts.rule(x, "elect village*10+owner if owner=1;elect 5 if bend=2");
        x.force(0);
        x.launch(1);
        x.launch(3);
        x.dam(1);
        CHECK.same("the dam goes ahead of the election", x.elected(0), 1);
        CHECK.same("ashore", x.elected(1), 0);
        CHECK.same("ashore", x.elected(2), 2);
        CHECK.same("99 last", x.elected(3), 3);
        x.flood(0);
        order(x, "room", 1, 0, 2, 3);
        x.force(2);
        CHECK.same("village is 9", x.elected(0), 2);
        // water: that behind the FLOOD
        RaftForest y = Texts.forest("river 3;village 0;wood 1;log 0 1 1 0;log 0 1 1 0");
        Texts.rule(y, "elect 1-log if water=53;elect log");
        y.force(0);
        y.flood(2);
        order(y, "water 52", 1, 0);
        y.flood(1);
        order(y, "water 53", 0, 1);
    }

    private static void elected() {
        RaftForest x = five();
        CHECK.same("place -1", x.elected(-1), -1);
        CHECK.same("place 5", x.elected(5), -1);
        CHECK.same("place far", x.elected(FAR), -1);
        x.ahead(4, 0);
        CHECK.same("behind a flood", x.elected(0), 0);
        CHECK.same("the order stays", x.log(4, 9), 0);
        x.dam(1);
        x.elected(0);
        CHECK.same("dams stay", x.bend(1, 1), 1);
        CHECK.same("water stays", x.count(8), 50);
        // no more WATER than there is now
        Texts.rule(x, "elect log if water=50");
        x.force(0);
        CHECK.same("water as it is", x.elected(0), 4);
    }

    private static void order(RaftForest x, String what, int... logs) {
        for (int place = 0; place < logs.length; place++) {
            CHECK.same(what + ": place of log " + logs[place], x.log(logs[place], 9), place);
        }
    }
}
