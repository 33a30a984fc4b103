/** Promise 4: river, and the FAULTS of its text. */
public final class RiverTextTest {
    private static final Check CHECK = new Check("RiverTextTest");

    public static void main(String[] args) {
        good();
        faults();
        tooMany();
        leastOfOnePlace();
        faultLeavesAll();
        newInPlaceOfOld();
        CHECK.end();
    }

    private static void good() {
        tells("river 2", 0);
        tells("river9", 0);
        tells("  river   00002  ", 0);
        tells("river 2;village0;wood 1;log 0 1 1 0", 1);
        tells("river 2 ; village 1 ; wood 99 ; log 0 99 99 0 ; toll 9 ; width 1 9", 1);
        tells("river 2;toll 0;width 0 1;width 0 2", 0);
        tells("river 2;village 0;wood 1;log0 1 1 0;log00000 00001 1 0", 2);
        tells("river 2" + " ".repeat(393), 0);

        RaftForest x = Texts.forest("river 4;width 2 3;width 1 5;width 2 7;village 3;village 0;wood 4;wood 6;"
                + "log 1 10 20 1;log 0 30 40 0;toll 2");
        CHECK.same("bends", x.count(0), 4);
        CHECK.same("villages", x.count(1), 2);
        CHECK.same("woods", x.count(2), 2);
        CHECK.same("logs", x.count(3), 2);
        CHECK.same("toll", x.count(19), 2);
        CHECK.same("width without", x.bend(0, 0), 9);
        CHECK.same("width", x.bend(1, 0), 5);
        CHECK.same("width told twice", x.bend(2, 0), 7);
        CHECK.same("bend of village 0", x.village(0, 0), 3);
        CHECK.same("bend of village 1", x.village(1, 0), 0);
        CHECK.same("wood of log 0", x.log(0, 0), 1);
        CHECK.same("length of log 0", x.log(0, 1), 10);
        CHECK.same("rings of log 0", x.log(0, 2), 20);
        CHECK.same("log 0 lies at 1", x.log(0, 3), 21);
        CHECK.same("its one notch is hers", x.notch(0, 0), 1);
        CHECK.same("one notch", x.log(0, 4), 1);
        CHECK.same("log 1 lies at 0", x.log(1, 3), 20);
        CHECK.same("order by numbers", x.log(1, 9), 1);
        CHECK.same("day", x.count(7), 0);
        CHECK.same("water", x.count(8), 50);
    }

    private static void faults() {
        // a byte or WORD that can't stand there, or the end
        fails("", 0, 0);
        fails("     ", 5, 0);
        fails("river", 5, 0);
        fails("river  ", 7, 0);
        fails("rive 2", 0, 0);
        fails("rivers 2", 0, 0);
        fails("River 2", 0, 0);
        fails("  #", 2, 0);
        fails("river 2;", 8, 0);
        fails("river 2; ", 9, 0);
        fails("river 2;;", 8, 0);
        fails("river 2 3", 8, 0);
        fails("river 2,", 7, 0);
        fails("river 2x", 7, 0);
        fails("river x", 6, 0);
        fails("river -2", 6, 0);
        fails("river 2;jam 1=1", 8, 0);
        fails("river 2;village", 15, 0);
        fails("river 2;width 0", 15, 0);
        fails("river 2;width 0;", 15, 0);
        fails("river 2;width 0 1 1", 18, 0);
        fails("river 2;village 0;wood 1;log 0 1 1", 34, 0);
        fails("river 2;village 0;wood 1;log 0 1 village", 33, 0);
        fails("river 2;village 0;wood 1;log 0 1 1 0 0", 37, 0);
        fails("river 2;villageX 0", 15, 0);
        fails("river 2\u00ff", 7, 0);
        fails("river 2\u0000", 7, 0);
        fails("river\t2", 5, 0);
        fails("river{2", 5, 0);
        fails("river\u00e92", 5, 0);
        // a NUMBER of more digits, or not as told
        fails("river 1", 6, 1);
        fails("river 0", 6, 1);
        fails("river 10", 6, 1);
        fails("river 000002", 6, 1);
        fails("river 123456789012345678901234567890", 6, 1);
        fails("river 2;village 2", 16, 1);
        fails("river 2;width 2 1", 14, 1);
        fails("river 2;width 0 0", 16, 1);
        fails("river 2;width 0 10", 16, 1);
        fails("river 2;wood 0", 13, 1);
        fails("river 2;wood 100", 13, 1);
        fails("river 2;toll 10", 13, 1);
        fails("river 2;log 0 1 1 0", 12, 1);
        fails("river 2;village 0;log 0 1 1 0", 22, 1);
        fails("river 2;wood 1;log 0 1 1 0", 25, 1);
        fails("river 2;village 0;wood 1;log 1 1 1 0", 29, 1);
        fails("river 2;village 0;wood 1;log 0 0 1 0", 31, 1);
        fails("river 2;village 0;wood 1;log 0 100 1 0", 31, 1);
        fails("river 2;village 0;wood 1;log 0 1 0 0", 33, 1);
        fails("river 2;village 0;wood 1;log 0 1 100 0", 33, 1);
        fails("river 2;village 0;wood 1;log 0 1 1 1", 35, 1);
        // only the first one along the text is told
        fails("river 1;village 7;#", 6, 1);
        fails("river 2;village 7;#", 16, 1);
    }

    private static void tooMany() {
        fails("village 0", 0, 4);
        fails(" toll 0", 1, 4);
        fails("width", 0, 4);
        fails("river 2;river 2", 8, 4);
        fails("river 2; river", 9, 4);
        fails("river 2;toll 0;toll 0", 15, 4);
        tells("river 2" + ";village 0".repeat(6), 0);
        fails("river 2" + ";village 0".repeat(7), 8 + 60, 4);
        tells("river 2" + ";wood 1".repeat(4), 0);
        fails("river 2" + ";wood 1".repeat(5), 8 + 28, 4);
        tells("river 2;village 0;wood 1" + ";log 0 1 1 0".repeat(12), 12);
        fails("river 2;village 0;wood 1" + ";log 0 1 1 0".repeat(13), 25 + 144, 4);
        tells("river2" + ";width0 1".repeat(39), 0);
        fails("river2" + ";width0 1".repeat(40), 7 + 351, 4);
    }

    private static void leastOfOnePlace() {
        fails("river2" + ";width0 1".repeat(39) + ";what", 7 + 351, 0);
        fails("river2" + ";width0 1".repeat(39) + ";", 7 + 351, 0);
        fails("river2" + ";width0 1".repeat(39) + ";river 3", 7 + 351, 4);
        fails("river 2 123456", 8, 0);
        fails("wat 123456", 0, 0);
    }

    private static void faultLeavesAll() {
        RaftForest x = Texts.forest("river 3;village 1;wood 2;log 0 5 5 0;toll 1");
        x.launch(0);
        x.days(1);
        CHECK.same("a fault", Texts.river(x, "river 2;village 0;village 9"), Texts.fault(26, 1));
        CHECK.same("the tape is empty", x.count(18), 0);
        CHECK.same("bends stay", x.count(0), 3);
        CHECK.same("villages stay", x.count(1), 1);
        CHECK.same("bend of village stays", x.village(0, 0), 1);
        CHECK.same("logs stay", x.count(3), 1);
        CHECK.same("toll stays", x.count(19), 1);
        CHECK.same("day stays", x.count(7), 1);
        CHECK.same("log stays", x.log(0, 3), 2);
    }

    private static void newInPlaceOfOld() {
        String text = "river 2;village 0;village 0;wood 3;log 0 9 1 0;log 0 9 1 1;log 0 9 1 0";
        RaftForest x = Texts.forest(text + ";log 0 5 1 1;width 1 1;toll 4");
        CHECK.same("rule", Texts.rule(x, "jam log<3;take log=1 and day=1;mine 1 if log<3"), 0);
        x.force(0);
        x.bind(0, 0);
        x.law(3, 0);
        x.seed(77);
        for (int log = 0; log < 4; log++) {
            x.launch(log);
        }
        x.days(2);
        CHECK.same("sold", x.log(3, 3), 40);
        x.days(2);
        x.flood(3);
        x.dam(1);
        x.land(0, 0);
        x.wedding(0);
        x.sight(0, 0, 0);
        CHECK.same("a notch by hand", x.cut(0, 0), 1);
        CHECK.same("it burns", x.burn(1), 19);
        x.image(2);
        CHECK.holds("there were jams", x.count(16) > 0 && x.log(2, 8) > 0);
        CHECK.holds("there was a debt", x.owes(0, 1) > 0);
        CHECK.holds("there were coins", x.village(0, 2) > 0);
        CHECK.same("the sea has coins", x.count(12), 1);
        CHECK.same("toll", x.count(19), 4);
        CHECK.same("a river", Texts.river(x, text), 3);
        int[] due = {2, 2, 1, 3, 1, -1, 0, 0, 50, 0, 0, 0, 0, 0, 0, 0, 0, 77, 0, 0};
        for (int what = 0; what < due.length; what++) {
            CHECK.same("new river: count(" + what + ")", x.count(what), due[what]);
        }
        CHECK.same("no debts", x.owes(0, 1), 0);
        CHECK.same("no coins", x.village(0, 2) + x.village(1, 2), 0);
        CHECK.same("no rule of a village", x.village(0, 1), -1);
        CHECK.same("no dams", x.bend(1, 1), 0);
        CHECK.same("width anew", x.bend(1, 0), 9);
        CHECK.same("nothing kept of days", x.was(0, 1), -2);
        CHECK.same("nothing to undo", x.undo(), -2);
        CHECK.same("log lies where it was felled", x.log(0, 3), 20);
        CHECK.same("one notch", x.log(0, 4), 1);
        CHECK.same("no jams", x.log(2, 7), 0);
        CHECK.same("no days of jams on end", x.log(2, 8), 0);
        CHECK.same("no weddings", x.log(0, 10), 0);
        CHECK.same("images stay", x.back(2), 4);
        CHECK.same("width as in the image", x.bend(1, 0), 1);
    }

    private static void tells(String text, int logs) {
        RaftForest x = new RaftForest();
        CHECK.same("river of: " + text, Texts.river(x, text), logs);
        CHECK.same("tape behind: " + text, x.count(18), 0);
    }

    private static void fails(String text, int place, int kind) {
        RaftForest x = new RaftForest();
        CHECK.same("river of: " + text, Texts.river(x, text), Texts.fault(place, kind));
        CHECK.same("tape behind: " + text, x.count(18), 0);
        CHECK.same("bends behind: " + text, x.count(0), 0);
    }
}
