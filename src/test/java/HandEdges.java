/** Boundary cases of LAWS, LOGS and NOTCHES: of part II of the Terms what is done by hand, and promises 6 to 20. */
final class HandEdges {
    private final Edges e;

    HandEdges(Edges edges) {
        e = edges;
    }

    void all() {
        standing();
        owners();
        ownersByRule();
        prices();
        byHand();
        undone();
        force();
        bind();
        law();
        bend();
        village();
        log();
        notch();
        cut();
        cutOver();
        undo();
        launch();
        land();
        burn();
        saw();
        ahead();
    }

    /** LOG 0, of VILLAGES of one BEND, with these NOTCHES, in the WATER. */
    private static RaftForest notched(int... villages) {
        RaftForest x = Texts.forest("river 3" + ";village 0".repeat(6) + ";wood 1;log 0 9 1 " + villages[0]);
        x.launch(0);
        for (int i = 1; i < villages.length; i++) {
            x.cut(0, villages[i]);
        }
        return x;
    }

    private void standing() {
        e.in("II");
        e.edge("ROOM at a BEND: its width less its DAMS, less the LOGS in the WATER there, 0 at least.", () -> {
            RaftForest x = Texts.forest("river 2;village 0;wood 1;width 0 3;width 1 1" + ";log 0 1 1 0".repeat(3));
            e.due(x, "bend(0, 3) = 3", "launch(0) = 0", "bend(0, 3) = 2", "launch(2) = 0", "bend(0, 3) = 1",
                    "dam(0) = 1", "bend(0, 3) = 0", "dam(0) = 2", "bend(0, 3) = 0", "dam(0) = 3", "bend(0, 3) = 0",
                    "bend(1, 3) = 1", "dam(1) = 1", "bend(1, 3) = 0", "dam(1) = 2", "bend(1, 3) = 0", "bend(0, 0) = 3");
        });
        e.edge("NOTCHES: 6 at most, one behind the other, each a VILLAGE's.", () -> {
            RaftForest x = notched(5, 4, 3, 2, 1, 0);
            e.due(x, "log(0, 4) = 6", "notch(0, 0) = 5", "notch(0, 1) = 4", "notch(0, 4) = 1", "notch(0, 5) = 0",
                    "notch(0, 6) = -1", "cut(0, 5) = -2", "log(0, 4) = 6", "notch(0, 5) = 0");
        });
        e.edge("BURNT: a LOG ASHORE; if another one is the OWNER, the VILLAGE owes him its PRICE.", () -> {
            e.due(Stands.logs(7, 8), "burn(0) = 7", "village(0, 5) = 0", "winter(99999) = 0", "launch(1) = 0",
                    "burn(1) = -2", "log(1, 3) = 0");
            RaftForest x = notched(3, 4);
            e.due(x, "burn(0) = -2", "land(0, 4) = true", "burn(0) = 9", "owes(4, 3) = 9", "owes(3, 4) = 0",
                    "winter(99999) = 9");
            RaftForest y = notched(3, 4);
            e.due(y, "law(1, 0) = 0", "land(0, 4) = true", "burn(0) = 9", "winter(99999) = 0");
            // of DRIFT nobody is
            RaftForest z = notched(3);
            Texts.rule(z, "mine 1 if 1=2");
            e.due(z, "law(3, 0) = 0", "land(0, 4) = true", "burn(0) = 9", "winter(99999) = 0");
        });
        e.edge("SAWN: a LOG that is not SOLD or BURNT is shorter.", () -> {
            RaftForest x = Stands.logs(7, 8);
            e.due(x, "saw(0, 1) = 6", "launch(0) = 0", "saw(0, 1) = 5", "log(0, 6) = 5", "burn(1) = 8", "saw(1, 1) = -2",
                    "log(1, 1) = 8", "days(2) = 2", "log(0, 3) = 40", "saw(0, 1) = -2", "log(0, 1) = 5");
        });
    }

    private void owners() {
        e.edge("0 whose its first NOTCH is; 1 its last; 2 the VILLAGE with most of its NOTCHES, of several the least;", () -> {
            e.due(notched(4), "log(0, 5) = 4", "law(1, 0) = 0", "log(0, 5) = 4", "law(2, 0) = 1", "log(0, 5) = 4");
            e.due(notched(4, 5, 3, 5, 3, 0), "log(0, 5) = 4", "law(1, 0) = 0", "log(0, 5) = 0", "law(2, 0) = 1",
                    "log(0, 5) = 3");
            e.due(notched(5, 4, 3, 2, 1, 0), "law(2, 0) = 0", "log(0, 5) = 0");
            e.due(notched(5, 0, 5, 0, 5, 1), "law(2, 0) = 0", "log(0, 5) = 5");
            e.due(notched(5, 5, 5, 5, 5, 5), "law(2, 0) = 0", "log(0, 5) = 5", "law(0, 0) = 2", "log(0, 5) = 5");
        });
        e.edge("None: it is DRIFT. (LAW 0 at first.)", () -> {
            RaftForest x = notched(2);
            Texts.rule(x, "jam 1=1;mine 1");
            e.due(x, "count(6) = 0", "log(0, 5) = 2", "force(0) = -1", "days(3) = 3", "log(0, 4) = 0", "log(0, 5) = -1",
                    "law(1, 0) = 0", "log(0, 5) = -1", "law(2, 0) = 1", "log(0, 5) = -1", "law(3, 0) = 2",
                    "log(0, 5) = -1", "village(0, 4) = 0", "village(2, 4) = 0", "cut(0, 0) = 1", "log(0, 5) = 0");
        });
    }

    private void ownersByRule() {
        e.edge("3 by a RULE: of the VILLAGES that have a NOTCH in it that with the greatest SUM of the RULE's first mine CLAUSE"
                + " without a TEST, or whose TEST holds (who has none does not claim it), of several the least.", () -> {
                    claims("mine village", 5, 5, 4, 3);
                    claims("mine 9-village", 3, 5, 4, 3);
                    claims("mine 7", 3, 5, 4, 3);
                    claims("mine 7 if village<5;mine 7", 3, 5, 4, 3);
                    // VILLAGES without a NOTCH in it can't
                    claims("mine 9 if village<3;mine 1 if village=4", 4, 5, 4, 3);
                    claims("mine 1 if village<3", -1, 5, 4, 3);
                    // the first CLAUSE of a VILLAGE, not her greatest
                    claims("mine 1 if village=5;mine 9 if village=5;mine 2", 3, 5, 4, 3);
                    claims("mine 1;mine 9 if village=5", 3, 5, 4, 3);
                    // who has none does not claim it, and one below 0 is one
                    claims("mine 0-9 if village=4", 4, 5, 4, 3);
                    claims("mine 0-1 if village=5;mine 0-2", 5, 5, 4, 3);
                    claims("jam 1=1;take 1=1;add 1=1;elect 5", -1, 5, 4, 3);
                    claims("mine 65536*65536*65536*32768-1 if village=4;mine 65536*65536*65536*32768", 4, 5, 4, 3);
                });
    }

    private void claims(String rule, int owner, int... villages) {
        RaftForest x = notched(villages);
        Texts.rule(x, rule);
        e.due(x, "law(3, 0) = 0");
        e.same("by " + rule, x.log(0, 5), owner);
    }

    private void prices() {
        e.edge("PRICE of a LOG: LENGTH times the PRICE of its WOOD, less toll for each BEND from where it is to the MOUTH"
                + " (that counted; at the MOUTH none), 0 at least.", () -> {
                    RaftForest x = Texts.forest("river 9;village 0;village 8;wood 99;wood 1;toll 9;log 0 99 1 0;log 1 81 1 0;"
                            + "log 1 80 1 0;log 1 82 1 0;log 1 1 1 1;log 1 9 1 1;log 1 10 1 1");
                    e.due(x, "log(0, 6) = 9720", "log(1, 6) = 0", "log(2, 6) = 0", "log(3, 6) = 1", "log(4, 6) = 0",
                            "log(5, 6) = 0", "log(6, 6) = 1", "launch(0) = 0", "log(0, 6) = 9720", "days(1) = 1",
                            "log(0, 6) = 9729", "days(7) = 8", "log(0, 6) = 9792", "days(1) = 9", "log(0, 6) = 9801",
                            "village(0, 2) = 9801", "burn(4) = 0", "owes(1, 0) = 0");
                });
    }

    private void byHand() {
        e.edge("NOTCHES BY HAND: a VILLAGE cuts one (behind the others) in a LOG that is ASHORE there or in the WATER at her"
                + " BEND; or cuts one that is there over with hers.", () -> {
                    RaftForest x = Texts.forest("river 3;village 0;village 0;village 1;wood 1;log 0 1 1 0");
                    e.due(x, "cut(0, 0) = 2", "cut(0, 1) = -2", "cut(0, 2) = -2", "cutOver(0, 0, 1) = -2", "launch(0) = 0",
                            "cut(0, 0) = 3", "cut(0, 1) = 4", "cut(0, 2) = -2", "cutOver(0, 0, 2) = -2",
                            "cutOver(0, 0, 1) = 0", "days(1) = 1", "cut(0, 0) = -2", "cutOver(0, 1, 1) = -2",
                            "cut(0, 2) = 5", "cutOver(0, 0, 2) = 1", "cutOver(0, 4, 2) = -2", "cutOver(0, 5, 2) = -2",
                            "notch(0, 0) = 2", "notch(0, 3) = 1", "notch(0, 4) = 2", "land(0, 2) = true",
                            "cut(0, 2) = 6", "cutOver(0, 3, 2) = 1");
                });
    }

    private void undone() {
        e.edge("The last 12 of these can be UNDONE, the last first, as long as what was cut stands there still (one cut behind"
                + " the others: as the last one).", () -> {
                    RaftForest x = Texts.forest("river 2;village 0;village 0;wood 1" + ";log 0 1 1 0".repeat(3));
                    for (int i = 0; i < 14; i++) {
                        e.due(x, "count(15) = " + Math.min(i, 12), "cut(" + i % 3 + ", 0) = " + (i / 3 + 2));
                    }
                    for (int i = 13; i >= 2; i--) {
                        e.due(x, "count(15) = " + (i - 1), "undo() = " + i % 3);
                    }
                    e.due(x, "count(15) = 0", "undo() = -2", "log(0, 4) = 2", "log(1, 4) = 2", "log(2, 4) = 1");
                    // places, and whose each was, go with those that are dropped
                    RaftForest y = notched(0, 1, 2);
                    Calls.run(y, "undo()", "undo()", "cut(0, 1)", "cut(0, 2)");
                    for (int i = 0; i < 17; i++) {
                        e.due(y, "cutOver(0, " + i % 3 + ", " + (i + 1 + i / 3) % 6 + ") = " + (i < 3 ? i : (i - 3 + i / 3) % 6));
                    }
                    for (int i = 16; i >= 5; i--) {
                        e.due(y, "undo() = 0", "notch(0, " + i % 3 + ") = " + (i - 3 + i / 3) % 6);
                    }
                    e.due(y, "undo() = -2", "notch(0, 0) = 5", "notch(0, 1) = 0", "notch(0, 2) = 3");
                    stillThere();
                });
    }

    private void stillThere() {
        RaftForest x = Texts.forest("river 3;village 0;village 0;village 1;wood 1;log 0 1 1 0");
        Texts.rule(x, "take notches<6 or day>0;jam day<5");
        e.due(x, "launch(0) = 0", "cutOver(0, 0, 1) = 0", "cut(0, 1) = 2", "cut(0, 0) = 3", "bind(2, 0) = -1",
                "days(1) = 1", "notch(0, 3) = 2");
        // the third is not the last one; its undoing waits, and so do those ahead of it
        e.due(x, "undo() = -2", "count(15) = 3", "cut(0, 2) = 5", "undo() = 0", "undo() = -2", "count(15) = 3",
                "log(0, 4) = 4", "cutOver(0, 1, 2) = 1", "undo() = 0", "notch(0, 1) = 1", "undo() = -2");
        // cut over again by a VILLAGE that takes it
        RaftForest y = notched(0, 0, 0, 0, 0);
        Texts.rule(y, "take 1=1;jam 1=1");
        e.due(y, "cut(0, 5) = 6", "force(0) = -1", "bind(4, 0) = -1", "days(1) = 1", "notch(0, 5) = 4", "undo() = -2",
                "cutOver(0, 0, 4) = 0", "undo() = 0", "notch(0, 0) = 0", "undo() = -2", "count(15) = 5");
        // faded; then cut anew, by her: what stands there is a NOTCH as the one that was cut
        RaftForest z = notched(0);
        Texts.rule(z, "jam 1=1");
        e.due(z, "cut(0, 1) = 2", "cutOver(0, 1, 2) = 1", "force(0) = -1", "days(3) = 3", "log(0, 4) = 1", "undo() = -2",
                "count(15) = 2", "cut(0, 3) = 2", "undo() = 0", "log(0, 4) = 1", "undo() = -2", "count(15) = 2");
    }

    private void force() {
        e.in(6);
        e.edge("A RULE is IN FORCE (NONE: none): which was", () -> {
            RaftForest x = Stands.rich();
            e.due(x, "force(0) = 1", "count(5) = 0", "force(0) = 0", "force(NONE) = 0", "count(5) = -1",
                    "force(NONE) = -1", "force(1) = -1", "count(5) = 1");
        });
        e.edge("-2, and nothing happens, without it, or a RIVER.", () -> {
            e.refuses(Stands::rich, "force(2) = -2", "force(5) = -2", "force(6) = -2", "force(-2) = -2",
                    "force(MOST) = -2", "force(LEAST) = -2");
            e.refuses(Stands::riverless, "force(0) = -2", "force(NONE) = -2", "force(1) = -2");
        });
    }

    private void bind() {
        e.in(7);
        e.edge("A RULE (NONE: none) is a VILLAGE's: which was", () -> {
            RaftForest x = Stands.rich();
            e.due(x, "bind(0, 1) = -1", "bind(2, 0) = 1", "village(0, 1) = 1", "village(1, 1) = -1", "village(2, 1) = 0",
                    "bind(2, NONE) = 0", "village(2, 1) = -1", "bind(2, 1) = -1");
        });
        e.edge("-2, and nothing happens, without these.", () -> {
            e.refuses(Stands::rich, "bind(3, 0) = -2", "bind(5, 0) = -2", "bind(6, 0) = -2", "bind(-1, 0) = -2",
                    "bind(2, 2) = -2", "bind(2, 6) = -2", "bind(2, -2) = -2", "bind(MOST, 0) = -2", "bind(0, MOST) = -2",
                    "bind(LEAST, LEAST) = -2", "bind(3, NONE) = -2");
            e.refuses(Stands::riverless, "bind(0, 0) = -2", "bind(0, NONE) = -2");
        });
    }

    private void law() {
        e.in(8);
        e.edge("(3: by a RULE that is told; else it is not asked): which was", () -> {
            RaftForest x = Stands.rich();
            e.due(x, "log(7, 5) = 1", "law(3, 0) = 3", "log(7, 5) = 0", "law(0, MOST) = 3", "law(1, LEAST) = 0",
                    "law(2, 2) = 1", "log(4, 5) = 1", "law(0, -1) = 2", "count(6) = 0", "law(3, 1) = 0", "count(6) = 3",
                    "log(4, 5) = -1");
        });
        e.edge("-2, and nothing happens, without these, or a RIVER.", () -> {
            e.refuses(Stands::rich, "law(3, 2) = -2", "law(3, -1) = -2", "law(3, 6) = -2", "law(3, MOST) = -2",
                    "law(3, LEAST) = -2", "law(4, 0) = -2", "law(-1, 0) = -2", "law(MOST, 0) = -2", "law(LEAST, 0) = -2");
            e.refuses(Stands::riverless, "law(0, 0) = -2", "law(1, 0) = -2", "law(2, 0) = -2", "law(3, 0) = -2");
            e.refuses(() -> Texts.forest("river 2;village 0;wood 1;log 0 1 1 0"), "law(3, 0) = -2");
        });
    }

    private void bend() {
        e.in(9);
        e.edge("Of a BEND what 0: width, 1: DAMS, 2: LOGS in the WATER there, as bits, 3: ROOM. NONE without these.", () -> {
            RaftForest x = Stands.rich();
            e.due(x, "bend(0, 0) = 1", "bend(3, 1) = 3", "bend(2, 2) = 4", "bend(2, 3) = 1", "bend(1, 2) = 32",
                    "bend(3, 2) = 0", "bend(-1, 0) = -1", "bend(4, 0) = -1", "bend(8, 0) = -1", "bend(9, 0) = -1",
                    "bend(0, -1) = -1", "bend(0, 4) = -1", "bend(MOST, 0) = -1", "bend(LEAST, 0) = -1",
                    "bend(0, MOST) = -1", "bend(0, LEAST) = -1");
            e.due(Stands.riverless(), "bend(0, 0) = -1", "bend(0, 1) = -1", "bend(0, 2) = -1", "bend(0, 3) = -1");
            RaftForest full = Texts.forest("river 2;village 0;wood 1" + ";log 0 1 1 0".repeat(12));
            for (int log = 11; log > 2; log--) {
                full.launch(log);
            }
            e.due(full, "bend(0, 2) = " + (4096 - 8), "bend(0, 3) = 0");
        });
    }

    private void village() {
        e.in(10);
        e.edge("Of a VILLAGE what 0: BEND, 1: RULE (NONE), 2: coins (of LOGS SOLD), 3: LOGS ASHORE there, as bits, 4: LOGS of"
                + " which she is the OWNER (not SOLD, not BURNT), as bits, 5: NET. -1000000 without these.", () -> {
                    RaftForest x = Stands.rich();
                    e.due(x, "village(2, 0) = 2", "village(0, 1) = -1", "village(2, 1) = 1", "village(0, 2) = 27",
                            "village(1, 3) = 144", "village(2, 3) = 10", "village(0, 3) = 0", "village(0, 4) = 4",
                            "village(1, 4) = 128", "village(2, 4) = 10", "log(0, 5) = 0", "log(6, 5) = 2",
                            "village(1, 5) = 40", "village(2, 5) = -40", "village(0, 5) = 0");
                    e.due(x, "village(-1, 0) = -1000000", "village(3, 0) = -1000000", "village(5, 5) = -1000000",
                            "village(6, 0) = -1000000", "village(0, -1) = -1000000", "village(0, 6) = -1000000",
                            "village(MOST, 0) = -1000000", "village(LEAST, 0) = -1000000", "village(0, MOST) = -1000000",
                            "village(0, LEAST) = -1000000");
                    e.due(Stands.riverless(), "village(0, 0) = -1000000", "village(0, 5) = -1000000");
                    RaftForest all = Texts.forest("river 2;village 0;wood 1" + ";log 0 1 1 0".repeat(12));
                    e.due(all, "village(0, 3) = 4095", "village(0, 4) = 4095");
                });
    }

    private void log() {
        e.in(11);
        e.edge("3: where it is (0 to 8 in the WATER at that BEND, 20 to 25 ASHORE at VILLAGE 0 to 5, 40 SOLD, 41 BURNT)", () -> {
            RaftForest x = Texts.forest("river 9;village 0" + ";village 8".repeat(5) + ";wood 1;log 0 1 1 0;log 0 1 1 5;"
                    + "log 0 1 1 1");
            e.due(x, "log(0, 3) = 20", "log(1, 3) = 25", "log(2, 3) = 21", "launch(0) = 0", "log(0, 3) = 0",
                    "launch(1) = 8", "log(1, 3) = 8", "days(1) = 1", "log(0, 3) = 1", "log(1, 3) = 40", "burn(2) = 1",
                    "log(2, 3) = 41", "days(7) = 8", "log(0, 3) = 8", "days(1) = 9", "log(0, 3) = 40");
        });
        e.edge("5: OWNER (NONE: DRIFT), 6: PRICE, 7: JAMS, 8: for how many DAYS on end it JAMS, 9: its place in the ORDER,"
                + " 10: WEDDINGS.", () -> {
                    RaftForest x = Stands.rich();
                    e.due(x, "log(4, 5) = -1", "log(5, 5) = -1", "log(5, 7) = 5", "log(5, 8) = 2", "log(3, 9) = 0",
                            "log(6, 9) = 7", "log(1, 10) = 2", "log(6, 10) = 0", "days(1) = 7", "log(5, 7) = 6",
                            "log(5, 8) = 0", "days(1) = 8", "log(5, 8) = 1", "log(5, 4) = 0");
                });
        e.edge("-2 without these (PRICE of one SOLD: as at the MOUTH; BURNT: 0).", () -> {
            RaftForest x = Stands.rich();
            e.due(x, "log(0, 6) = 27", "log(6, 6) = 0", "log(6, 1) = 4", "log(-1, 0) = -2", "log(8, 0) = -2",
                    "log(11, 0) = -2", "log(12, 0) = -2", "log(0, -1) = -2", "log(0, 11) = -2", "log(MOST, 0) = -2",
                    "log(LEAST, 0) = -2", "log(0, MOST) = -2", "log(0, LEAST) = -2");
            RaftForest y = Stands.riverless();
            for (int what = 0; what < 11; what++) {
                e.due(y, "log(0, " + what + ") = -2");
            }
        });
    }

    private void notch() {
        e.in(12);
        e.edge("Whose the NOTCH at a place is; NONE: there is none; -2 without that LOG.", () -> {
            RaftForest x = Stands.rich();
            e.due(x, "notch(7, 0) = 1", "notch(7, 5) = 1", "notch(7, 6) = -1", "notch(1, 1) = 2", "notch(1, 2) = -1",
                    "notch(5, 0) = -1", "notch(1, -1) = -1", "notch(1, MOST) = -1", "notch(1, LEAST) = -1",
                    "notch(8, 0) = -2", "notch(-1, 0) = -2", "notch(12, 0) = -2", "notch(MOST, 0) = -2",
                    "notch(LEAST, 0) = -2", "notch(8, 9) = -2");
            e.due(Stands.riverless(), "notch(0, 0) = -2");
        });
    }

    private void cut() {
        e.in(13);
        e.edge("A VILLAGE cuts a NOTCH BY HAND: how many it has", () -> {
            RaftForest x = Stands.rich();
            e.due(x, "cut(5, 1) = 1", "notch(5, 0) = 1", "cut(5, 0) = 2", "cut(5, 0) = 3", "cut(5, 0) = 4",
                    "cut(5, 1) = 5", "cut(5, 1) = 6", "notch(5, 5) = 1", "count(15) = 12");
        });
        e.edge("-2, and nothing happens, if it may not, or it has 6.", () -> {
            e.refuses(Stands::rich, "cut(7, 1) = -2", "cut(7, 0) = -2", "cut(2, 0) = -2", "cut(5, 2) = -2",
                    "cut(1, 0) = -2", "cut(4, 0) = -2", "cut(0, 0) = -2", "cut(6, 2) = -2", "cut(8, 0) = -2",
                    "cut(-1, 0) = -2", "cut(12, 0) = -2", "cut(5, 3) = -2", "cut(5, 6) = -2", "cut(5, -1) = -2",
                    "cut(MOST, 0) = -2", "cut(LEAST, 0) = -2", "cut(5, MOST) = -2", "cut(5, LEAST) = -2");
            e.refuses(() -> Calls.run(Stands.rich(), "launch(7)"), "cut(7, 0) = -2", "cut(7, 1) = -2");
            e.refuses(Stands::riverless, "cut(0, 0) = -2");
        });
    }

    private void cutOver() {
        e.in(14);
        e.edge("A VILLAGE cuts a NOTCH over BY HAND: whose it was", () -> {
            RaftForest x = Stands.rich();
            e.due(x, "cutOver(7, 1, 1) = 0", "cutOver(7, 3, 1) = 0", "cutOver(1, 0, 2) = 1", "notch(1, 0) = 2",
                    "log(1, 4) = 2", "count(15) = 9", "undo() = 1", "notch(1, 0) = 1");
            RaftForest y = notched(0, 1, 2, 3, 4, 5);
            e.due(y, "cutOver(0, 5, 0) = 5", "cutOver(0, 0, 5) = 0", "log(0, 4) = 6");
        });
        e.edge("-2, and nothing happens, if it may not, there is none, or it is hers.", () -> {
            e.refuses(Stands::rich, "cutOver(7, 0, 1) = -2", "cutOver(7, 5, 1) = -2", "cutOver(7, 1, 0) = -2",
                    "cutOver(2, 0, 1) = -2", "cutOver(5, 0, 0) = -2", "cutOver(1, 2, 2) = -2", "cutOver(1, -1, 2) = -2", "cutOver(7, 6, 1) = -2",
                    "cutOver(1, 1, 2) = -2", "cutOver(1, 0, 0) = -2", "cutOver(0, 0, 1) = -2", "cutOver(6, 0, 0) = -2",
                    "cutOver(8, 0, 0) = -2", "cutOver(-1, 0, 0) = -2", "cutOver(1, 0, 3) = -2", "cutOver(1, 0, -1) = -2",
                    "cutOver(MOST, 0, 0) = -2", "cutOver(1, MOST, 2) = -2", "cutOver(1, LEAST, 2) = -2",
                    "cutOver(1, 0, MOST) = -2", "cutOver(LEAST, LEAST, LEAST) = -2");
            e.refuses(Stands::riverless, "cutOver(0, 0, 0) = -2");
        });
    }

    private void undo() {
        e.in(15);
        e.edge("The last NOTCH BY HAND is UNDONE: the LOG", () -> {
            RaftForest x = Stands.rich();
            e.due(x, "cut(5, 0) = 1", "undo() = 5", "log(5, 4) = 0", "undo() = 7", "log(7, 4) = 5", "undo() = 7",
                    "undo() = 7", "undo() = 7", "notch(7, 0) = 0", "undo() = 7", "undo() = 7", "log(7, 4) = 1",
                    "count(15) = 0");
        });
        e.edge("-2, and nothing happens: there is none, or it can't be.", () -> {
            e.refuses(RaftForest::new, "undo() = -2");
            e.refuses(Stands::riverless, "undo() = -2");
            e.refuses(() -> Stands.logs(1), "undo() = -2");
            e.refuses(() -> {
                RaftForest x = notched(0, 1, 2);
                Texts.rule(x, "jam 1=1");
                return Calls.run(x, "force(0)", "days(3)");
            }, "undo() = -2");
            e.refuses(() -> {
                RaftForest x = notched(0, 1, 2);
                Texts.rule(x, "take 1=1;jam 1=1");
                return Calls.run(x, "force(0)", "bind(2, 0)", "days(1)");
            }, "undo() = -2");
            e.refuses(() -> Calls.run(notched(0, 1), "undo()"), "undo() = -2");
        });
    }

    private void launch() {
        e.in(16);
        e.edge("-2, and nothing happens, without these, or ROOM.", () -> {
            e.refuses(Stands::rich, "launch(2) = -2", "launch(5) = -2", "launch(0) = -2", "launch(6) = -2",
                    "launch(8) = -2", "launch(12) = -2", "launch(-1) = -2", "launch(MOST) = -2", "launch(LEAST) = -2");
            e.refuses(() -> Calls.run(Stands.rich(), "launch(1)"), "launch(3) = -2");
            e.refuses(() -> Calls.run(Stands.rich(), "dam(2)"), "launch(3) = -2", "launch(1) = -2");
            e.refuses(Stands::riverless, "launch(0) = -2");
            RaftForest x = Stands.rich();
            e.due(x, "bend(2, 3) = 1", "launch(3) = 2", "bend(2, 3) = 0", "launch(1) = -2", "launch(7) = 1",
                    "land(3, 2) = true", "launch(1) = 2");
        });
    }

    private void land() {
        e.in(17);
        e.edge("true; false, and nothing happens, without these.", () -> {
            e.refuses(Stands::rich, "land(2, 0) = false", "land(5, 2) = false", "land(1, 2) = false", "land(7, 1) = false",
                    "land(0, 0) = false", "land(6, 2) = false", "land(2, 3) = false", "land(2, -1) = false",
                    "land(8, 0) = false", "land(-1, 0) = false", "land(12, 0) = false", "land(MOST, 0) = false",
                    "land(2, MOST) = false", "land(LEAST, LEAST) = false");
            e.refuses(Stands::riverless, "land(0, 0) = false");
        });
        e.edge("(without a NOTCH, and no debt)", () -> {
            RaftForest x = Stands.rich();
            e.due(x, "log(2, 5) = 0", "land(2, 2) = true", "log(2, 3) = 22", "log(2, 4) = 1", "owes(2, 0) = 0",
                    "land(5, 1) = true", "log(5, 3) = 21", "log(5, 4) = 0", "count(15) = 6");
        });
    }

    private void burn() {
        e.in(18);
        e.edge("BURNT: its PRICE; -2, and nothing happens, if it is not ASHORE.", () -> {
            e.refuses(Stands::rich, "burn(0) = -2", "burn(2) = -2", "burn(5) = -2", "burn(6) = -2", "burn(8) = -2",
                    "burn(-1) = -2", "burn(12) = -2", "burn(MOST) = -2", "burn(LEAST) = -2");
            e.refuses(Stands::riverless, "burn(0) = -2");
            RaftForest x = Stands.rich();
            e.due(x, "burn(3) = 22", "burn(3) = -2", "log(3, 6) = 0", "burn(4) = 39", "count(11) = 3");
            // of a PRICE of 0
            RaftForest y = Texts.forest("river 9;village 0;wood 1;toll 9;log 0 81 1 0");
            e.due(y, "burn(0) = 0", "log(0, 3) = 41");
        });
    }

    private void saw() {
        e.in(19);
        e.edge("SAWN by n (1 and on): its LENGTH then", () -> {
            RaftForest x = Stands.logs(99, 2);
            e.due(x, "saw(0, 1) = 98", "saw(0, 97) = 1", "log(0, 1) = 1", "saw(1, 1) = 1");
        });
        e.edge("-2, and nothing happens, without these, or if it would be below 1.", () -> {
            e.refuses(Stands::rich, "saw(3, 8) = -2", "saw(3, 9) = -2", "saw(3, 0) = -2", "saw(3, -1) = -2",
                    "saw(3, MOST) = -2", "saw(3, LEAST) = -2", "saw(0, 1) = -2", "saw(6, 1) = -2", "saw(8, 1) = -2",
                    "saw(-1, 1) = -2", "saw(12, 1) = -2", "saw(MOST, 1) = -2", "saw(LEAST, 1) = -2");
            e.refuses(Stands::riverless, "saw(0, 1) = -2");
            e.refuses(() -> Stands.logs(1), "saw(0, 1) = -2");
            e.due(Stands.rich(), "saw(3, 7) = 1", "saw(3, 1) = -2");
        });
    }

    private void ahead() {
        e.in(20);
        e.edge("A LOG comes to a place of the ORDER (those from there on move up one, as far as it was): the place where it"
                + " was", () -> {
                    RaftForest x = Stands.logs(1, 1, 1, 1, 1, 1, 1, 1, 1, 1, 1, 1);
                    e.due(x, "ahead(11, 0) = 11", "log(11, 9) = 0", "log(0, 9) = 1", "log(10, 9) = 11", "ahead(11, 11) = 0",
                            "log(0, 9) = 0", "log(10, 9) = 10", "log(11, 9) = 11", "ahead(5, 2) = 5", "log(1, 9) = 1",
                            "log(5, 9) = 2", "log(2, 9) = 3", "log(4, 9) = 5", "log(6, 9) = 6", "ahead(5, 2) = 2",
                            "log(5, 9) = 2", "log(2, 9) = 3", "ahead(5, 4) = 2", "log(2, 9) = 2", "log(3, 9) = 3",
                            "log(5, 9) = 4", "log(4, 9) = 5");
                    e.due(Stands.logs(1), "ahead(0, 0) = 0", "log(0, 9) = 0");
                });
        e.edge("-2, and nothing happens, without these.", () -> {
            e.refuses(Stands::rich, "ahead(8, 0) = -2", "ahead(-1, 0) = -2", "ahead(12, 0) = -2", "ahead(0, 8) = -2",
                    "ahead(0, -1) = -2", "ahead(0, 12) = -2", "ahead(MOST, 0) = -2", "ahead(0, MOST) = -2",
                    "ahead(LEAST, 0) = -2", "ahead(0, LEAST) = -2");
            e.refuses(Stands::riverless, "ahead(0, 0) = -2");
        });
    }
}
