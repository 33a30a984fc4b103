/** Objects that tests begin with. */
final class Stands {
    private Stands() {
    }

    /** A RULE is told, and no RIVER; a text lies on the TAPE. */
    static RaftForest riverless() {
        RaftForest x = new RaftForest();
        Texts.rule(x, "jam 1=1;take 1=1;add 1=1;elect 1;mine 1");
        Calls.run(x, "seed(11)", "image(2)");
        Texts.tape(x, "mine 5");
        return x;
    }

    /**
     * Something of everything: BENDS 0 to 3, VILLAGES 0 and 1 at BEND 1 and 2 at BEND 2, RULES 0 and 1, IMAGE 1.
     * LOG 0 is SOLD, 1 and 3 lie at 2, LOG 2 is in the WATER at BEND 2, 4 (DRIFT) lies at 1, 5 jams at BEND 1 (without a
     * NOTCH), 6 is BURNT, 7 lies at 1 with 6 NOTCHES. VILLAGE 2 owes 1; there are 3 DAMS at BEND 3; it is DAY 6.
     */
    static RaftForest rich() {
        RaftForest x = Texts.forest("river 4;village 1;village 1;village 2;wood 3;wood 7;width 2 2;width 0 1;toll 1;"
                + "log 0 9 5 0;log 1 6 2 1;log 0 7 3 0;log 0 8 4 2;log 1 9 5 1;log 0 5 6 0;log 0 4 7 2;log 1 3 8 0");
        Texts.rule(x, "mine 9-village");
        Texts.rule(x, "jam log=5;take village=2 and log=1;elect length;mine notches+village if not log=4");
        Calls.run(x, "wedding(0)", "seed(5)", "launch(2)", "cut(2, 1)", "days(1)", "image(1)", "land(2, 2)", "undo()");
        Calls.run(x, "force(1)", "bind(2, 1)", "law(3, 1)", "seed(99)", "wedding(1)", "sight(5, 0, 0)");
        Calls.run(x, "launch(0)", "launch(1)", "launch(5)", "days(3)", "sight(5, 0, NONE)", "days(2)");
        Calls.run(x, "launch(7)", "cut(7, 0)", "cut(7, 1)", "cutOver(7, 0, 1)", "cut(7, 0)", "cut(7, 1)", "cut(7, 1)");
        Calls.run(x, "land(7, 1)", "launch(6)", "land(6, 2)", "burn(6)", "flood(8)", "launch(2)");
        Calls.run(x, "dam(3)", "dam(3)", "dam(3)", "dam(1)", "saw(4, 3)", "ahead(3, 0)", "wedding(2)");
        Texts.tape(x, "mine 5");
        return x;
    }

    /** LOGS of VILLAGE 0, one told for each length, at the only VILLAGE of BEND 0, of two BENDS; VILLAGE 1 at BEND 1. */
    static RaftForest logs(int... lengths) {
        StringBuilder text = new StringBuilder("river 2;village 0;village 1;wood 1");
        for (int length : lengths) {
            text.append(";log 0 " + length + " 1 0");
        }
        return Texts.forest(text.toString());
    }
}
