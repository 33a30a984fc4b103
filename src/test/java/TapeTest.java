/** Promises 1 to 3: a new object, feed, end. */
public final class TapeTest {
    private static final Check CHECK = new Check("TapeTest");

    public static void main(String[] args) {
        newObject();
        feed();
        end();
        CHECK.end();
    }

    private static void newObject() {
        RaftForest x = new RaftForest();
        for (int what = 0; what < 20; what++) {
            CHECK.same("new: count(" + what + ")", x.count(what), what == 5 ? -1 : 0);
        }
        CHECK.same("new: count(-1)", x.count(-1), -1);
        CHECK.same("new: count(20)", x.count(20), -1);
        CHECK.same("new: NONE", RaftForest.NONE, -1);
        CHECK.same("new: back(0)", x.back(0), -1);
    }

    private static void feed() {
        RaftForest x = new RaftForest();
        for (int i = 1; i <= 20; i++) {
            CHECK.same("feed " + i, x.feed(-1, 0, 1, 2, 3), 20 * i);
        }
        CHECK.same("feed 21", x.feed(0, 0, 0, 0, 0), -1);
        CHECK.same("bytes", x.count(18), 400);
        CHECK.same("end(381)", x.end(381), 381);
        CHECK.same("feed that would make 401", x.feed(0, 0, 0, 0, 0), -1);
        CHECK.same("bytes", x.count(18), 381);
        CHECK.same("end(380)", x.end(380), 380);
        CHECK.same("feed that makes 400", x.feed(0, 0, 0, 0, 0), 400);
        // the highest byte first: "rive" "r 2;" "wood" " 9  " "    "
        x.end(0);
        x.feed(0x72697665, 0x7220323b, 0x776f6f64, 0x20392020, 0x20202020);
        CHECK.same("river of fed bytes", x.river(), 0);
        CHECK.same("woods", x.count(2), 1);
        // a byte above 127 is none of the signs, and it is not taken for one below 0
        x.feed(0x72697665, 0x722032ff, 0, 0, 0);
        CHECK.same("river with byte 255", x.river(), Texts.fault(7, 0));
    }

    private static void end() {
        RaftForest x = new RaftForest();
        CHECK.same("end(0) of none", x.end(0), 0);
        CHECK.same("end(1) of none", x.end(1), -1);
        x.feed(0, 0, 0, 0, 0);
        CHECK.same("end(-1)", x.end(-1), -1);
        CHECK.same("end(21)", x.end(21), -1);
        CHECK.same("end(least)", x.end(Integer.MIN_VALUE), -1);
        CHECK.same("end(greatest)", x.end(Integer.MAX_VALUE), -1);
        CHECK.same("end(20)", x.end(20), 20);
        CHECK.same("end(7)", x.end(7), 7);
        CHECK.same("bytes", x.count(18), 7);
        CHECK.same("end(8)", x.end(8), -1);
    }
}
