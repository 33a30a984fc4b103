/** Promises 26, 31, 32: wedding, kin, kinOf. */
public final class KinTest {
    private static final Check CHECK = new Check("KinTest");

    public static void main(String[] args) {
        wedding();
        kin();
        farKin();
        CHECK.end();
    }

    private static void wedding() {
        RaftForest x = new RaftForest();
        CHECK.same("without a river", x.wedding(0), -2);
        Texts.river(x, "river 2;village 0;village 0;wood 1;log 0 1 1 0;log 0 1 1 1;log 0 1 1 0;log 0 1 1 0");
        x.launch(2);
        CHECK.same("what is in the water is no beam", x.wedding(0), 9);
        x.land(2, 1);
        CHECK.same("beams", x.wedding(1), 6);
        x.burn(3);
        CHECK.same("what is burnt is no beam", x.wedding(0), 1);
        x.burn(0);
        CHECK.same("without beams", x.wedding(0), 0);
        CHECK.same("it is one, too", x.count(13), 4);
        CHECK.same("no village", x.wedding(2), -2);
        CHECK.same("village -1", x.wedding(-1), -2);
        CHECK.same("weddings of a burnt one", x.log(3, 10), 1);
        for (int i = 4; i < 20; i++) {
            CHECK.same("wedding " + i, x.wedding(1), 6);
        }
        CHECK.same("a 21st", x.wedding(1), -2);
        CHECK.same("20", x.count(13), 20);
        CHECK.same("weddings of 1", x.log(1, 10), 17);
    }

    private static void kin() {
        RaftForest x = Texts.forest("river 2;village 0;village 0;wood 1;log 0 1 1 0;log 0 1 1 0;log 0 1 1 1;log 0 1 1 1");
        CHECK.same("itself without a wedding", x.kin(2, 2), 0);
        CHECK.same("kinOf without a wedding", x.kinOf(2), 4);
        CHECK.same("not at all", x.kin(0, 1), -2);
        x.wedding(0);
        CHECK.same("one step", x.kin(0, 1), 1);
        CHECK.same("one step back", x.kin(1, 0), 1);
        CHECK.same("itself", x.kin(0, 0), 0);
        CHECK.same("not at all", x.kin(0, 2), -2);
        CHECK.same("kinOf", x.kinOf(1), 3);
        CHECK.same("kinOf another one", x.kinOf(3), 8);
        x.wedding(1);
        x.launch(1);
        x.land(1, 1);
        CHECK.same("where they are is nothing", x.kin(1, 2), -2);
        x.wedding(1);
        CHECK.same("two steps", x.kin(0, 3), 2);
        CHECK.same("all", x.kinOf(0), 15);
        x.burn(1);
        CHECK.same("a burnt one still joins", x.kin(0, 3), 2);
        for (int[] no : new int[][] {{-1, 0}, {0, -1}, {4, 0}, {0, 4}, {12, 12}, {Integer.MAX_VALUE, 0}}) {
            CHECK.same("kin(" + no[0] + ", " + no[1] + ")", x.kin(no[0], no[1]), -1);
        }
        CHECK.same("kinOf(-1)", x.kinOf(-1), -1);
        CHECK.same("kinOf(4)", x.kinOf(4), -1);
        CHECK.same("a new object", new RaftForest().kinOf(0), -1);
    }

    /** A chain of twelve LOGS, each a beam with the one ahead of it: the fewest steps are asked, not the first. */
    private static void farKin() {
        RaftForest x = Texts.forest("river 2;village 0;village 0;wood 1" + ";log 0 1 1 0".repeat(12));
        for (int log = 0; log < 9; log++) {
            x.launch(log);
        }
        // they come ashore at village 1 by twos
        for (int log = 0; log < 8; log++) {
            x.land(log, 1);
            x.land(log + 1, 1);
            CHECK.same("beams", x.wedding(1), 3 << log);
            x.launch(log);
        }
        CHECK.same("eight steps", x.kin(0, 8), 8);
        CHECK.same("eight steps back", x.kin(8, 0), 8);
        CHECK.same("three steps", x.kin(2, 5), 3);
        CHECK.same("kinOf", x.kinOf(4), 511);
        CHECK.same("not at all", x.kin(0, 9), -2);
        // 8 lies at village 1 still
        for (int log = 8; log < 11; log++) {
            x.launch(log + 1);
            x.land(log + 1, 1);
            CHECK.same("beams", x.wedding(1), 3 << log);
            x.launch(log);
            x.land(log, 0);
        }
        CHECK.same("eleven steps", x.kin(0, 11), 11);
        CHECK.same("all", x.kinOf(11), 4095);
        // a shorter way
        x.land(0, 1);
        CHECK.same("beams", x.wedding(1), 2049);
        CHECK.same("one step", x.kin(0, 11), 1);
        CHECK.same("two steps", x.kin(0, 10), 2);
        CHECK.same("six steps", x.kin(0, 6), 6);
    }
}
