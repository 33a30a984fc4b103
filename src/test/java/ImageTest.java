/** Promises 44 and 45: image, back. */
public final class ImageTest {
    private static final Check CHECK = new Check("ImageTest");

    public static void main(String[] args) {
        wrong();
        withoutRiver();
        allIsAsItWas();
        rulesAndTapeStay();
        fourImages();
        CHECK.end();
    }

    private static void wrong() {
        RaftForest x = Texts.forest("river 2");
        x.days(3);
        for (int no : new int[] {-1, 4, Integer.MAX_VALUE, Integer.MIN_VALUE}) {
            CHECK.same("image(" + no + ")", x.image(no), -1);
            CHECK.same("back(" + no + ")", x.back(no), -1);
        }
        for (int k = 0; k < 4; k++) {
            CHECK.same("back(" + k + ") was never made", x.back(k), -1);
        }
        CHECK.same("nothing happens", x.count(7), 3);
        CHECK.same("image", x.image(3), 3);
        CHECK.same("back(2) was never made", x.back(2), -1);
        CHECK.same("back", x.back(3), 3);
    }

    private static void withoutRiver() {
        RaftForest x = new RaftForest();
        x.seed(5);
        CHECK.same("image of none", x.image(0), 0);
        Texts.river(x, "river 2;village 0;wood 1;log 0 1 1 0");
        x.days(2);
        x.seed(6);
        CHECK.same("back", x.back(0), 0);
        CHECK.same("no bends", x.count(0), 0);
        CHECK.same("no logs", x.log(0, 0), -2);
        CHECK.same("no days", x.days(1), -2);
        CHECK.same("no rule in force", x.count(5), -1);
        CHECK.same("x as it was", x.count(17), 5);
        CHECK.same("a river again", Texts.river(x, "river 3;village 2"), 0);
        CHECK.same("days", x.days(1), 1);
    }

    private static RaftForest full() {
        RaftForest x = Texts.forest("river 3;village 0;village 0;village 1;wood 3;wood 7;width 1 1;toll 1;"
                + "log 0 5 1 0;log 1 6 2 1;log 0 7 3 0;log 0 8 4 2;log 1 9 5 1");
        Texts.rule(x, "mine 9-village");
        Texts.rule(x, "jam log=2;take village=2 and log=0;elect length;mine notches+village if not log=4");
        x.force(1);
        x.bind(2, 1);
        x.law(3, 1);
        x.seed(99);
        x.wedding(0);
        x.wedding(1);
        x.sight(0, 0, 0);
        x.launch(0);
        x.launch(1);
        x.launch(2);
        x.cut(0, 1);
        x.cutOver(0, 0, 1);
        x.days(2);
        x.sight(0, 0, 1);
        x.land(2, 1);
        x.burn(2);
        x.flood(8);
        x.dam(2);
        x.saw(4, 3);
        x.ahead(3, 0);
        return x;
    }

    private static void allIsAsItWas() {
        RaftForest x = full();
        long before = told(x);
        CHECK.same("image", x.image(1), 2);
        CHECK.same("by an image nothing changes", told(x), before);
        x.force(-1);
        x.bind(2, -1);
        x.law(0, 0);
        x.undo();
        x.days(20);
        x.wedding(0);
        x.wedding(2);
        x.sight(-1, 0, 0);
        x.flood(50);
        x.dam(0);
        x.saw(3, 2);
        x.seed(1);
        x.winter(99999);
        x.burn(4);
        x.cut(0, 2);
        x.cut(0, 2);
        CHECK.holds("all is other", told(x) != before);
        CHECK.same("back", x.back(1), 2);
        CHECK.same("all is as it was", told(x), before);
        CHECK.same("what can be undone, too", x.undo(), 0);
        CHECK.same("cut over undone", x.notch(0, 0), 0);
        x.law(3, 0);
        CHECK.holds("another rule of the law", told(x) != before);
        x.back(1);
        CHECK.same("the law's rule is as it was", told(x), before);
        otherRiver(x);
        CHECK.same("back over another river", x.back(1), 2);
        CHECK.same("all is as it was", told(x), before);
        CHECK.same("the sea's coins", x.count(12), 0);
        CHECK.same("cut over undone", x.undo(), 0);
        CHECK.same("whose it was", x.notch(0, 0), 0);
        x.back(1);
        // it goes on alike, twice
        x.days(5);
        long behind = told(x);
        x.back(1);
        x.days(5);
        CHECK.same("it goes on alike", told(x), behind);
    }

    /** Another RIVER, with something else of all that is kept. */
    private static void otherRiver(RaftForest x) {
        Texts.river(x, "river 2;village 0;village 0;village 0;wood 7;log 0 1 1 0;log 0 2 2 1;log 0 3 3 2;log 0 4 4 0;"
                + "log 0 1 1 0;log 0 5 5 2");
        for (int log = 0; log < 5; log++) {
            x.launch(log);
        }
        x.cutOver(2, 0, 1);
        x.cut(2, 0);
        x.cut(1, 2);
        x.land(1, 2);
        x.land(2, 2);
        x.wedding(2);
        x.wedding(0);
        for (int i = 0; i < 4; i++) {
            x.sight(2, 1, (i + 1) % 3);
        }
        x.force(1);
        x.law(3, 1);
        x.days(3);
        x.burn(1);
        x.seed(3);
        CHECK.holds("coins of the sea", x.count(12) > 0);
        CHECK.same("sights", x.count(14), 4);
        CHECK.same("cuts", x.count(15), 3);
    }

    /** All that can be asked, drawn together. */
    private static long told(RaftForest x) {
        long all = 7;
        for (int what = 0; what < 20; what++) {
            all = all * 31 + x.count(what);
        }
        for (int i = 0; i < 12; i++) {
            for (int what = 0; what < 11; what++) {
                all = all * 31 + x.log(i, what);
            }
            for (int place = 0; place < 6; place++) {
                all = all * 31 + x.notch(i, place);
                all = all * 31 + x.parted(i, place, 0) * 100 + x.parted(i, place, 3);
            }
            for (int ago = 1; ago < 31; ago++) {
                all = all * 31 + x.was(i, ago);
            }
            all = all * 31 + x.kinOf(i);
            all = all * 31 + x.elected(i);
            for (int j = 0; j < 6; j++) {
                all = all * 31 + x.owes(i, j);
                all = all * 31 + x.bend(i, j);
                all = all * 31 + x.village(i, j);
            }
        }
        for (int what = 0; what < 6; what++) {
            all = all * 31 + x.floats(9, what);
        }
        return all * 31 + x.drawn(3, 9, 50, 0);
    }

    private static void rulesAndTapeStay() {
        RaftForest x = Texts.forest("river 2;village 0");
        Texts.rule(x, "jam 1=1");
        x.image(0);
        Texts.rule(x, "jam 1=2");
        x.feed(1, 2, 3, 4, 5);
        CHECK.same("back", x.back(0), 0);
        CHECK.same("rules stay", x.count(4), 2);
        CHECK.same("the tape stays", x.count(18), 20);
        CHECK.same("a rule told behind it can be in force", x.force(1), -1);
    }

    private static void fourImages() {
        RaftForest x = Texts.forest("river 2;village 0;wood 1;log 0 9 1 0");
        for (int k = 0; k < 4; k++) {
            CHECK.same("image " + k, x.image(k), k);
            x.saw(0, 1);
            x.days(1);
        }
        for (int k = 3; k >= 0; k--) {
            CHECK.same("back " + k, x.back(k), k);
            CHECK.same("length", x.log(0, 1), 9 - k);
        }
        CHECK.same("forth", x.back(3), 3);
        CHECK.same("length", x.log(0, 1), 6);
        x.days(10);
        CHECK.same("made anew", x.image(0), 13);
        x.back(1);
        CHECK.same("back", x.back(0), 13);
        CHECK.same("length", x.log(0, 1), 6);
    }
}
