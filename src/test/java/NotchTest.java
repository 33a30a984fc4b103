/** Promises 13 to 15: cut, cutOver, undo. */
public final class NotchTest {
    private static final Check CHECK = new Check("NotchTest");

    public static void main(String[] args) {
        cut();
        cutOver();
        undo();
        whatStandsStill();
        lastTwelve();
        CHECK.end();
    }

    /** Villages 0 and 1 lie at one BEND, 2 below. */
    private static RaftForest forest() {
        return Texts.forest("river 2;village 0;village 0;village 1;wood 1;log 0 1 1 0;log 0 1 1 2");
    }

    private static void cut() {
        RaftForest x = forest();
        CHECK.same("ashore there", x.cut(0, 0), 2);
        CHECK.same("ashore beside her", x.cut(0, 1), -2);
        CHECK.same("ashore elsewhere", x.cut(0, 2), -2);
        x.launch(0);
        CHECK.same("in the water at her bend", x.cut(0, 1), 3);
        CHECK.same("in the water elsewhere", x.cut(0, 2), -2);
        CHECK.same("no log", x.cut(2, 0), -2);
        CHECK.same("log -1", x.cut(-1, 0), -2);
        CHECK.same("no village", x.cut(0, 3), -2);
        CHECK.same("village -1", x.cut(0, -1), -2);
        CHECK.same("still", x.log(0, 4), 3);
        CHECK.same("behind the others", x.notch(0, 2), 1);
        CHECK.same("4", x.cut(0, 1), 4);
        CHECK.same("5", x.cut(0, 0), 5);
        CHECK.same("6", x.cut(0, 0), 6);
        CHECK.same("it has 6", x.cut(0, 1), -2);
        CHECK.same("kept", x.count(15), 5);
        x.days(1);
        CHECK.same("at the next bend", x.cut(0, 0), -2);
        x.days(1);
        CHECK.same("sold", x.cut(0, 0), -2);
        x.burn(1);
        CHECK.same("burnt", x.cut(1, 2), -2);
        CHECK.same("no debts by hand", x.village(0, 5), 0);
    }

    private static void cutOver() {
        RaftForest x = forest();
        x.launch(0);
        x.cut(0, 1);
        CHECK.same("it is hers", x.cutOver(0, 0, 0), -2);
        CHECK.same("over", x.cutOver(0, 0, 1), 0);
        CHECK.same("now hers", x.notch(0, 0), 1);
        CHECK.same("as many", x.log(0, 4), 2);
        CHECK.same("over again", x.cutOver(0, 0, 0), 1);
        CHECK.same("the last", x.cutOver(0, 1, 0), 1);
        CHECK.same("there is none", x.cutOver(0, 2, 1), -2);
        CHECK.same("place -1", x.cutOver(0, -1, 1), -2);
        CHECK.same("place far", x.cutOver(0, Integer.MAX_VALUE, 1), -2);
        CHECK.same("she may not", x.cutOver(0, 0, 2), -2);
        CHECK.same("no village", x.cutOver(0, 0, 3), -2);
        CHECK.same("village -1", x.cutOver(0, 0, -1), -2);
        CHECK.same("no log", x.cutOver(2, 0, 1), -2);
        CHECK.same("kept", x.count(15), 4);
        x.land(0, 1);
        CHECK.same("ashore elsewhere", x.cutOver(0, 0, 0), -2);
        CHECK.same("ashore there", x.cutOver(0, 0, 1), 0);
    }

    private static void undo() {
        RaftForest x = forest();
        CHECK.same("there is none", x.undo(), -2);
        x.launch(0);
        x.cut(0, 1);
        x.cutOver(0, 0, 1);
        x.cut(1, 2);
        x.cutOver(0, 1, 0);
        CHECK.same("kept", x.count(15), 4);
        CHECK.same("log 0 cut over at 1", x.undo(), 0);
        CHECK.same("as it was", x.notch(0, 1), 1);
        CHECK.same("the first as it is", x.notch(0, 0), 1);
        CHECK.same("log 1", x.undo(), 1);
        CHECK.same("one notch", x.log(1, 4), 1);
        CHECK.same("log 0 cut over", x.undo(), 0);
        CHECK.same("as it was", x.notch(0, 0), 0);
        CHECK.same("still two", x.log(0, 4), 2);
        CHECK.same("log 0 cut", x.undo(), 0);
        CHECK.same("one notch", x.log(0, 4), 1);
        CHECK.same("no more", x.undo(), -2);
        CHECK.same("kept", x.count(15), 0);
    }

    private static void whatStandsStill() {
        // a village that takes it cuts behind: what was cut is not the last one any more
        RaftForest x = forest();
        Texts.rule(x, "take 1=1");
        x.bind(2, 0);
        x.cut(0, 0);
        x.launch(0);
        x.days(1);
        CHECK.same("taken", x.log(0, 3), 22);
        CHECK.same("three notches", x.log(0, 4), 3);
        CHECK.same("not the last one", x.undo(), -2);
        CHECK.same("it is kept", x.count(15), 1);
        CHECK.same("one by hand again", x.cut(0, 2), 4);
        CHECK.same("undone", x.undo(), 0);
        CHECK.same("not the last one", x.undo(), -2);
        // one cut over stands where it was, whatever comes behind
        RaftForest y = forest();
        Texts.rule(y, "take 1=1");
        y.bind(2, 0);
        y.launch(0);
        y.cutOver(0, 0, 1);
        y.days(1);
        CHECK.same("taken", y.log(0, 4), 2);
        CHECK.same("undone", y.undo(), 0);
        CHECK.same("as it was", y.notch(0, 0), 0);
        // what has faded is not there
        RaftForest z = forest();
        Texts.rule(z, "jam day<4");
        z.force(0);
        z.launch(0);
        z.cut(0, 1);
        z.days(3);
        CHECK.same("faded", z.log(0, 4), 1);
        CHECK.same("can't be undone", z.undo(), -2);
        z.cut(0, 0);
        CHECK.same("the last one can", z.undo(), 0);
        CHECK.same("the one that faded can't", z.undo(), -2);
        z.cut(0, 1);
        z.undo();
        CHECK.same("still kept", z.count(15), 1);
        // one that is sold is told still
        RaftForest s = forest();
        s.launch(0);
        s.cut(0, 1);
        s.days(2);
        CHECK.same("sold", s.log(0, 3), 40);
        CHECK.same("undone all the same", s.undo(), 0);
        CHECK.same("one notch", s.log(0, 4), 1);
    }

    private static void lastTwelve() {
        RaftForest x = Texts.forest("river 2;village 0;wood 1;log 0 1 1 0;log 0 1 1 0;log 0 1 1 0");
        for (int log = 0; log < 3; log++) {
            for (int i = 0; i < 5; i++) {
                x.cut(log, 0);
            }
        }
        CHECK.same("12 are kept", x.count(15), 12);
        for (int i = 0; i < 12; i++) {
            CHECK.same("undo " + i, x.undo(), 2 - i / 5);
            CHECK.same("kept", x.count(15), 11 - i);
        }
        CHECK.same("no more", x.undo(), -2);
        CHECK.same("three of the first log stay", x.log(0, 4), 4);
        CHECK.same("none of the last one", x.log(2, 4), 1);
        // of two villages by turns, cut over and over: what is kept is told rightly when the first ones go
        RaftForest y = Texts.forest("river 2;village 0;village 0;village 0;wood 1;log 0 1 1 0");
        y.launch(0);
        y.cut(0, 2);
        for (int i = 0; i < 14; i++) {
            CHECK.same("cut over", y.cutOver(0, i % 2, (i / 2 + 1) % 3), i == 1 ? 2 : (i / 2 + i % 2 * 0) % 3);
        }
        CHECK.same("12 are kept", y.count(15), 12);
        for (int i = 13; i >= 2; i--) {
            CHECK.same("undone", y.undo(), 0);
            CHECK.same("as it was", y.notch(0, i % 2), i / 2 % 3);
        }
        CHECK.same("no more", y.undo(), -2);
    }
}
