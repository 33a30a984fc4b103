/** Boundary cases of DAYS, FLOODS and DAMS: of part II of the Terms what passes there, and promises 21 to 30. */
final class WaterEdges {
    private final Edges e;

    WaterEdges(Edges edges) {
        e = edges;
    }

    void all() {
        jams();
        sold();
        mud();
        taken();
        added();
        dayCounts();
        floods();
        damsAndDebts();
        dam();
        appeal();
        votes();
        flood();
        elected();
        wedding();
        winter();
        days();
        floats();
        letAhead();
    }

    private void jams() {
        e.in("II");
        e.edge("(1) LOGS in the WATER, in the ORDER, each once: it JAMS, if some jam TEST of the RULE IN FORCE holds, or there is"
                + " no ROOM at the next BEND (the MOUTH has); else it floats to the next BEND.", () -> {
                    // in a full RIVER the last one in the ORDER makes way too late
                    RaftForest x = Texts.forest("river 3;village 0;village 1;village 2;wood 1;width 1 1;width 2 1;"
                            + "log 0 1 1 0;log 0 1 1 1;log 0 1 1 2");
                    e.due(x, "launch(0) = 0", "launch(1) = 1", "launch(2) = 2", "floats(1, 0) = 2", "floats(1, 1) = 1",
                            "ahead(2, 0) = 2", "floats(1, 0) = 1", "ahead(1, 1) = 2", "floats(1, 0) = 0", "days(1) = 1",
                            "log(0, 3) = 1", "log(1, 3) = 2", "log(2, 3) = 40");
                    // each once: where one comes it is not met again
                    RaftForest y = Texts.forest("river 9;village 0;wood 1;log 0 1 1 0");
                    e.due(y, "launch(0) = 0", "days(1) = 1", "log(0, 3) = 1");
                    // the MOUTH has ROOM for all, by a jam TEST they jam there as well
                    RaftForest z = Texts.forest("river 2;village 1;wood 1" + ";log 0 1 1 0".repeat(9));
                    Texts.rule(z, "jam log=8;jam log=0;jam log=4 and log=5");
                    for (int log = 0; log < 9; log++) {
                        e.due(z, "launch(" + log + ") = 1");
                    }
                    e.due(z, "dam(1) = 1", "floats(1, 1) = 9", "floats(1, 0) = 0", "force(0) = -1", "floats(1, 1) = 7",
                            "floats(1, 0) = 2", "bind(0, 0) = -1", "force(NONE) = 0", "floats(1, 0) = 0");
                    // a LOG ASHORE does not jam
                    RaftForest w = Stands.logs(1, 1);
                    Texts.rule(w, "jam 1=1");
                    e.due(w, "force(0) = -1", "days(1) = 1", "count(16) = 0", "launch(1) = 0", "days(1) = 2",
                            "count(16) = 1", "log(0, 7) = 0", "log(1, 7) = 1");
                });
    }

    private void sold() {
        e.edge("At the MOUTH it is SOLD: its PRICE goes to the OWNER; of DRIFT each VILLAGE has as many whole coins alike as can"
                + " be, the sea the rest.", () -> {
                    int[][] shares = {{1, 7, 7, 0}, {2, 7, 3, 1}, {3, 7, 2, 1}, {4, 7, 1, 3}, {5, 7, 1, 2}, {6, 7, 1, 1},
                        {6, 6, 1, 0}, {6, 5, 0, 5}, {6, 1, 0, 1}, {5, 4, 0, 4}, {3, 99, 33, 0}};
                    for (int[] share : shares) {
                        RaftForest x = Texts.forest("river 2" + ";village 1".repeat(share[0]) + ";wood 1;toll 9;log 0 "
                                + share[1] + " 1 0");
                        Texts.rule(x, "mine 1 if 1=2");
                        e.due(x, "launch(0) = 1", "law(3, 0) = 0", "days(1) = 1", "count(12) = " + share[3]);
                        for (int village = 0; village < share[0]; village++) {
                            e.due(x, "village(" + village + ", 2) = " + share[2]);
                        }
                    }
                    RaftForest y = Texts.forest("river 2;village 1;village 1;wood 99;toll 9;log 0 99 1 1");
                    e.due(y, "launch(0) = 1", "days(1) = 1", "village(0, 2) = 0", "village(1, 2) = 9801", "count(12) = 0",
                            "owes(0, 1) = 0");
                });
    }

    private void mud() {
        e.edge("A LOG that JAMS for the third DAY on end lies in mud: its last NOTCH fades, if it has one, and these DAYS are"
                + " counted anew.", () -> {
                    RaftForest x = Texts.forest("river 2;village 0;village 0;wood 1;log 0 1 1 0");
                    Texts.rule(x, "jam day<99");
                    e.due(x, "launch(0) = 0", "cut(0, 1) = 2", "force(0) = -1", "days(2) = 2", "log(0, 8) = 2",
                            "log(0, 4) = 2", "days(1) = 3", "log(0, 8) = 0", "log(0, 4) = 1", "notch(0, 0) = 0",
                            "days(2) = 5", "log(0, 8) = 2", "log(0, 4) = 1", "days(1) = 6", "log(0, 8) = 0",
                            "log(0, 4) = 0", "days(3) = 9", "log(0, 8) = 0", "log(0, 4) = 0", "log(0, 7) = 9",
                            "cut(0, 1) = 1", "days(2) = 11", "log(0, 4) = 1", "floats(1, 5) = 1", "floats(60, 5) = 1");
                    // on end: a DAY on which it floats, or lies ASHORE, comes between
                    RaftForest y = Texts.forest("river 9;village 0;wood 1;log 0 1 1 0");
                    Texts.rule(y, "jam not day%3=2");
                    e.due(y, "launch(0) = 0", "force(0) = -1", "days(15) = 15", "log(0, 7) = 10", "log(0, 4) = 1",
                            "log(0, 3) = 5", "log(0, 8) = 0");
                    RaftForest z = Texts.forest("river 9;village 0;wood 1;log 0 1 1 0");
                    Texts.rule(z, "jam 1=1");
                    e.due(z, "launch(0) = 0", "force(0) = -1", "days(2) = 2", "land(0, 0) = true", "days(1) = 3",
                            "log(0, 8) = 0", "launch(0) = 0", "days(2) = 5", "log(0, 8) = 2", "log(0, 4) = 1",
                            "days(1) = 6", "log(0, 4) = 0");
                });
    }

    private void taken() {
        e.edge("she cuts a NOTCH (behind the others; if it has 6, the last is hers instead)", () -> {
            for (int count = 1; count <= 6; count++) {
                RaftForest x = Texts.forest("river 2;village 0;village 1;wood 1;log 0 1 1 0");
                Texts.rule(x, "take 1=1");
                for (int i = 1; i < count; i++) {
                    x.cut(0, 0);
                }
                int last = Math.min(count, 5);
                e.due(x, "launch(0) = 0", "bind(1, 0) = -1", "days(1) = 1", "log(0, 3) = 21", "log(0, 4) = " + (last + 1),
                        "notch(0, " + last + ") = 1", "notch(0, " + (last - 1) + ") = 0", "count(15) = " + (count - 1));
            }
            // one that the mud has left without
            RaftForest y = Texts.forest("river 3;village 0;village 0;wood 1;log 0 1 1 0");
            Texts.rule(y, "jam 1=1;take day=3");
            e.due(y, "launch(0) = 0", "force(0) = -1", "bind(1, 0) = -1", "days(3) = 3", "log(0, 4) = 0", "days(1) = 4",
                    "log(0, 4) = 1", "notch(0, 0) = 1");
        });
        e.edge("if somebody else was the OWNER, she owes him its PRICE.", () -> {
            RaftForest x = Texts.forest("river 3;village 0;village 1;wood 2;toll 1;log 0 9 1 0;log 0 8 1 1;log 0 7 1 0;"
                    + "log 0 1 1 0");
            Texts.rule(x, "take 1=1;jam bend=1;mine 1 if not log=2");
            e.due(x, "force(0) = -1", "bind(1, 0) = -1", "law(3, 0) = 0", "launch(0) = 0", "launch(1) = 1",
                    "launch(2) = 0", "launch(3) = 0", "days(1) = 1", "village(1, 3) = 15", "owes(1, 0) = 16",
                    "owes(0, 1) = 0", "winter(99999) = 16");
            // who WAS the OWNER: by LAW 1 it is she who takes it, behind it
            RaftForest y = Texts.forest("river 3;village 0;village 1;wood 2;log 0 9 1 0");
            Texts.rule(y, "take 1=1");
            e.due(y, "law(1, 0) = 0", "bind(1, 0) = -1", "launch(0) = 0", "days(1) = 1", "log(0, 5) = 1",
                    "owes(1, 0) = 18");
        });
    }

    private void added() {
        e.edge("Then of LOGS ASHORE there (not TAKEN on this DAY), by numbers, each for which some add TEST holds comes into the"
                + " WATER, if there is ROOM.", () -> {
                    RaftForest x = Texts.forest("river 2;village 0;wood 1;width 0 2" + ";log 0 1 1 0".repeat(4));
                    Texts.rule(x, "add log=9;add not log=1;jam 1=1");
                    e.due(x, "bind(0, 0) = -1", "floats(1, 4) = 2", "days(1) = 1", "bend(0, 2) = 5", "floats(1, 4) = 1",
                            "force(0) = -1", "floats(9, 4) = 0", "dam(0) = 1", "land(0, 0) = true", "floats(1, 4) = 0");
                    // what is TAKEN lies there until the next DAY
                    RaftForest y = Texts.forest("river 2;village 0;wood 1;log 0 1 1 0");
                    Texts.rule(y, "take 1=1;add 1=1;jam 1=1");
                    e.due(y, "launch(0) = 0", "bind(0, 0) = -1", "force(0) = -1", "days(1) = 1", "log(0, 3) = 20",
                            "days(1) = 2", "log(0, 3) = 0", "days(1) = 3", "log(0, 3) = 20", "floats(5, 3) = 2",
                            "floats(5, 4) = 3");
                    // and one that lay there comes into the WATER in place of one TAKEN
                    RaftForest z = Texts.forest("river 2;village 0;wood 1;width 0 1;log 0 1 1 0;log 0 1 1 0");
                    Texts.rule(z, "take log=0;add 1=1;jam 1=1");
                    e.due(z, "launch(0) = 0", "bind(0, 0) = -1", "force(0) = -1", "days(1) = 1", "log(0, 3) = 20",
                            "log(1, 3) = 0");
                });
        e.edge("(A VILLAGE without a RULE takes and adds nothing.)", () -> {
            RaftForest x = Texts.forest("river 3;village 0;village 1;village 1;wood 1;log 0 1 1 0;log 0 1 1 1;log 0 1 1 2");
            Texts.rule(x, "take 1=1;add 1=1");
            e.due(x, "force(0) = -1", "launch(0) = 0", "floats(1, 3) = 0", "floats(1, 4) = 0", "bind(2, 0) = -1",
                    "floats(1, 3) = 1", "floats(1, 4) = 1", "days(1) = 1", "log(0, 3) = 22", "log(1, 3) = 21",
                    "log(2, 3) = 1", "bind(2, NONE) = 0", "floats(1, 4) = 0", "floats(1, 3) = 0");
        });
    }

    /** At DAY 9999 less so many. */
    private static RaftForest old(int less) {
        RaftForest x = Stands.logs(1);
        for (int i = 0; i < 166; i++) {
            x.days(60);
        }
        x.days(39 - less);
        return x;
    }

    private void dayCounts() {
        e.edge("(3) The DAY is 1 more (9999 at most).", () -> {
            RaftForest x = old(1);
            Texts.rule(x, "jam day=9999");
            e.due(x, "count(7) = 9998", "days(1) = 9999", "count(7) = 9999", "days(1) = -2", "count(7) = 9999",
                    "launch(0) = 0", "force(0) = -1", "floats(60, 0) = 60", "drawn(1, 60, 0, 0) = 60",
                    "letAhead(20, 0) = 20", "was(0, 30) = 20", "was(0, 31) = -2");
        });
        e.edge("PLACES of all LOGS then are kept for the last 30 DAYS.", () -> {
            RaftForest x = Texts.forest("river 9;village 0;wood 1" + ";log 0 1 1 0".repeat(12));
            e.due(x, "was(0, 1) = -2", "launch(11) = 0", "days(1) = 1", "was(11, 1) = 1", "was(11, 2) = -2",
                    "was(0, 1) = 20", "days(28) = 29", "was(11, 29) = 1", "was(11, 30) = -2", "days(1) = 30",
                    "was(11, 30) = 1", "was(11, 31) = -2", "days(1) = 31", "was(11, 30) = 2", "was(11, 31) = -2",
                    "days(7) = 38", "was(11, 30) = 40", "was(11, 31) = -2");
        });
    }

    /** LOGS of which 4 is BURNT and 1 SOLD, in an ORDER of its own. */
    private static RaftForest twoGone(String rule) {
        RaftForest x = Texts.forest("river 2;village 0;village 1;wood 1;log 0 5 1 0;log 0 9 1 1;log 0 7 1 0;log 0 7 1 0;"
                + "log 0 9 1 0;log 0 2 1 0");
        Texts.rule(x, rule);
        return Calls.run(x, "launch(1)", "days(1)", "burn(4)", "ahead(4, 0)", "ahead(5, 1)", "ahead(1, 2)");
    }

    private void order(RaftForest x, int... logs) {
        for (int place = 0; place < logs.length; place++) {
            e.due(x, "log(" + logs[place] + ", 9) = " + place);
        }
    }

    private void floods() {
        e.edge("A FLOOD of n: WATER is n more (999 at most), all DAMS go, the ORDER is new:", () -> {
            RaftForest x = Texts.forest("river 9;village 0;wood 1;log 0 1 1 0;log 0 1 1 0");
            for (int bend = 0; bend < 9; bend++) {
                e.due(x, "dam(" + bend + ") = 1", "dam(" + bend + ") = 2", "dam(" + bend + ") = 3");
            }
            e.due(x, "ahead(1, 0) = 1", "flood(0) = 50", "log(0, 9) = 0");
            for (int bend = 0; bend < 9; bend++) {
                e.due(x, "bend(" + bend + ", 1) = 0");
            }
            for (int water = 149; water < 999; water += 99) {
                e.due(x, "flood(99) = " + water);
            }
            e.due(x, "count(8) = 941", "flood(57) = 998", "flood(1) = 999", "flood(1) = 999", "flood(99) = 999",
                    "flood(0) = 999", "count(8) = 999");
        });
        e.edge("by the SUM of the first elect CLAUSE of the RULE IN FORCE without a TEST, or whose TEST holds, the greatest"
                + " first, alike by numbers; behind these LOGS for which there is none, by numbers; then those SOLD or BURNT,"
                + " by numbers.", () -> {
                    elects("elect length", 2, 3, 0, 5, 1, 4);
                    elects("elect 0-length", 5, 0, 2, 3, 1, 4);
                    elects("elect 3", 0, 2, 3, 5, 1, 4);
                    elects("elect length if length<7", 0, 5, 2, 3, 1, 4);
                    elects("elect 0-9 if log=5;elect 0-8 if log=3", 3, 5, 0, 2, 1, 4);
                    elects("elect 1 if log=3;elect 9 if log=3;elect 2", 0, 2, 5, 3, 1, 4);
                    elects("elect 1;elect 9 if log=3", 0, 2, 3, 5, 1, 4);
                    elects("elect 1 if 1=2", 0, 2, 3, 5, 1, 4);
                    elects("jam 1=1;take 1=1;add 1=1;mine 9-log", 0, 2, 3, 5, 1, 4);
                    // the ends of 64 bits
                    elects("elect 65536*65536*65536*32768-1 if log=3;elect 65536*65536*65536*32768", 3, 0, 2, 5, 1, 4);
                    elects("elect 65536*65536*65536*32768", 0, 2, 3, 5, 1, 4);
                });
        e.edge("(Without a RULE IN FORCE: by numbers, those SOLD or BURNT behind.)", () -> {
            RaftForest x = twoGone("elect log");
            e.due(x, "flood(1) = 51");
            order(x, 0, 2, 3, 5, 1, 4);
            e.due(x, "force(0) = -1", "force(NONE) = 0", "ahead(5, 0) = 3", "bind(0, 0) = -1", "elected(0) = 0",
                    "flood(1) = 52");
            order(x, 0, 2, 3, 5, 1, 4);
        });
    }

    private void elects(String rule, int... logs) {
        RaftForest x = twoGone(rule);
        e.due(x, "force(0) = -1");
        for (int place = 0; place < logs.length; place++) {
            e.due(x, "elected(" + place + ") = " + logs[place]);
        }
        e.due(x, "flood(9) = 59");
        order(x, logs);
    }

    private void damsAndDebts() {
        e.edge("A DAM at a BEND (3 at most of one).", () -> {
            RaftForest x = Texts.forest("river 2;width 0 1");
            e.due(x, "dam(0) = 1", "dam(0) = 2", "dam(0) = 3", "dam(0) = -2", "bend(0, 1) = 3", "dam(1) = 1",
                    "bend(0, 3) = 0", "bend(1, 3) = 8");
        });
        e.edge("An APPEAL against a DAM: each VILLAGE with a LOG that is hers in the WATER at a BEND above that one is for"
                + " tearing it down; each other one with a LOG that is hers in the WATER there or below is for keeping it;"
                + " if more are for tearing it down, a DAM goes.", () -> {
                    RaftForest x = voting("0 0", "1 1", "2 2");
                    e.due(x, "votes(0, 0) = 0", "votes(0, 1) = 7", "votes(1, 0) = 1", "votes(1, 1) = 6", "votes(2, 0) = 3",
                            "votes(2, 1) = 4");
                    e.due(x, "dam(0) = 1", "dam(1) = 1", "dam(2) = 1", "appeal(0) = 0", "appeal(1) = 0", "appeal(2) = 1",
                            "bend(0, 1) = 1", "bend(1, 1) = 1", "bend(2, 1) = 0");
                    // as many of each: it stays; one who is for both ways is for tearing it down alone
                    e.due(voting("0 0", "1 2"), "dam(1) = 1", "appeal(1) = 0", "bend(1, 1) = 1");
                    e.due(voting("0 0", "0 1", "0 2"), "votes(1, 0) = 1", "votes(1, 1) = 0", "dam(1) = 1", "appeal(1) = 1");
                    // VILLAGES count, not LOGS
                    e.due(voting("0 0", "0 0", "0 0", "1 2"), "dam(1) = 1", "appeal(1) = 0");
                    // nobody, and nobody's
                    e.due(voting(), "dam(1) = 1", "votes(1, 0) = 0", "votes(1, 1) = 0", "appeal(1) = 0");
                    RaftForest y = voting("0 0", "1 2");
                    Texts.rule(y, "mine 1 if log>99");
                    e.due(y, "law(3, 1) = 0", "votes(1, 0) = 0", "votes(1, 1) = 0", "dam(1) = 1", "appeal(1) = 0");
                    // one DAM of several goes, and those ASHORE have no vote
                    RaftForest z = voting("0 0", "1 2");
                    e.due(z, "dam(1) = 1", "dam(1) = 2", "dam(1) = 3", "land(1, 3) = true", "appeal(1) = 1",
                            "bend(1, 1) = 2", "launch(1) = 2", "appeal(1) = 0", "bend(1, 1) = 2");
                });
        e.edge("WINTER: each debt of at most n coins is written off.", () -> {
            RaftForest x = owing();
            e.due(x, "winter(6) = 0", "owes(0, 1) = 7", "winter(7) = 7", "owes(0, 1) = 0", "owes(1, 0) = 9",
                    "owes(2, 1) = 8", "winter(7) = 0", "winter(9) = 17", "owes(1, 0) = 0", "owes(2, 1) = 0",
                    "village(1, 5) = 0", "payments() = 0");
        });
    }

    /** In the WATER for each text a LOG that is of the VILLAGE of the first number at the BEND of the second one. */
    private static RaftForest voting(String... logs) {
        StringBuilder text = new StringBuilder("river 3;village 0;village 0;village 0;village 2;wood 1");
        StringBuilder rule = new StringBuilder("jam 1=2");
        for (int log = 0; log < logs.length; log++) {
            text.append(";log 0 1 1 " + logs[log].charAt(0));
            rule.append(";jam log=" + log + " and bend=" + logs[log].charAt(2));
        }
        RaftForest x = Texts.forest(text.toString());
        x.force(Texts.rule(x, rule.toString()));
        for (int log = 0; log < logs.length; log++) {
            x.launch(log);
        }
        return Calls.run(x, "days(2)", "force(NONE)");
    }

    /** VILLAGE 0 owes 1 of 7 coins, 1 owes 0 of 9, 2 owes 1 of 8. */
    private static RaftForest owing() {
        RaftForest x = Texts.forest("river 2;village 0;village 0;village 0;wood 1;log 0 3 1 1;log 0 4 1 1;log 0 9 1 0;"
                + "log 0 8 1 1");
        return Calls.run(x, "launch(0)", "land(0, 0)", "burn(0)", "launch(1)", "land(1, 0)", "burn(1)", "launch(2)",
                "land(2, 1)", "burn(2)", "launch(3)", "land(3, 2)", "burn(3)");
    }

    private void dam() {
        e.in(21);
        e.edge("-2, and nothing happens, without that BEND, or if there are 3.", () -> {
            e.refuses(Stands::rich, "dam(3) = -2", "dam(4) = -2", "dam(8) = -2", "dam(9) = -2", "dam(-1) = -2",
                    "dam(MOST) = -2", "dam(LEAST) = -2");
            e.refuses(Stands::riverless, "dam(0) = -2");
            e.due(Stands.rich(), "dam(1) = 2", "dam(1) = 3", "dam(1) = -2", "dam(0) = 1", "bend(1, 1) = 3",
                    "bend(0, 1) = 1");
        });
    }

    private void appeal() {
        e.in(22);
        e.edge("An APPEAL: 1 a DAM goes, 0 it stays; -2, and nothing happens, if there is none.", () -> {
            e.refuses(Stands::rich, "appeal(0) = -2", "appeal(2) = -2", "appeal(4) = -2", "appeal(9) = -2",
                    "appeal(-1) = -2", "appeal(MOST) = -2", "appeal(LEAST) = -2");
            e.refuses(Stands::riverless, "appeal(0) = -2");
            // it stays: nothing happens either
            e.refuses(Stands::rich, "appeal(1) = 0");
            RaftForest x = Stands.rich();
            e.due(x, "appeal(3) = 1", "bend(3, 1) = 2", "appeal(3) = 1", "appeal(3) = 1", "bend(3, 1) = 0",
                    "appeal(3) = -2", "bend(3, 1) = 0");
        });
    }

    private void votes() {
        e.in(23);
        e.edge("VOTES of an APPEAL that would be what 0: for tearing it down, 1: for keeping it, as bits; NONE without"
                + " these.", () -> {
                    e.refuses(Stands::rich, "votes(3, 0) = 1", "votes(0, 1) = 1", "votes(-1, 0) = -1", "votes(4, 0) = -1",
                            "votes(9, 0) = -1", "votes(0, -1) = -1", "votes(0, 2) = -1", "votes(MOST, 0) = -1",
                            "votes(LEAST, 0) = -1", "votes(0, MOST) = -1", "votes(0, LEAST) = -1");
                    e.refuses(Stands::riverless, "votes(0, 0) = -1", "votes(0, 1) = -1");
                    // of all six, without a DAM
                    RaftForest x = Texts.forest("river 2" + ";village 0".repeat(6) + ";wood 1;log 0 1 1 0;log 0 1 1 1;"
                            + "log 0 1 1 2;log 0 1 1 3;log 0 1 1 4;log 0 1 1 5");
                    for (int log = 0; log < 6; log++) {
                        x.launch(log);
                    }
                    e.due(x, "votes(1, 0) = 63", "votes(1, 1) = 0", "votes(0, 0) = 0", "votes(0, 1) = 63");
                    // of all twelve LOGS
                    RaftForest y = Texts.forest("river 2;village 0;village 1;wood 1" + ";log 0 1 1 0".repeat(11)
                            + ";log 0 1 1 1");
                    e.due(y, "launch(11) = 1", "votes(1, 1) = 2", "dam(1) = 1", "appeal(1) = 0", "launch(0) = 0",
                            "votes(1, 0) = 1", "votes(1, 1) = 2");
                });
    }

    private void flood() {
        e.in(24);
        e.edge("A FLOOD (n 0 to 99): WATER; -2, and nothing happens, without these, or a RIVER.", () -> {
            e.refuses(Stands::rich, "flood(-1) = -2", "flood(100) = -2", "flood(MOST) = -2", "flood(LEAST) = -2");
            e.refuses(Stands::riverless, "flood(0) = -2", "flood(1) = -2", "flood(99) = -2");
            e.due(Stands.rich(), "flood(0) = 58", "flood(99) = 157", "bend(3, 1) = 0");
            e.due(Texts.forest("river 2"), "flood(99) = 149");
        });
    }

    private void elected() {
        e.in(25);
        e.edge("Who would be at a place of the ORDER behind a FLOOD now; NONE without it.", () -> {
            e.refuses(Stands::rich, "elected(0) = 3", "elected(7) = 6", "elected(8) = -1", "elected(11) = -1",
                    "elected(12) = -1", "elected(-1) = -1", "elected(MOST) = -1", "elected(LEAST) = -1");
            e.refuses(Stands::riverless, "elected(0) = -1");
            e.due(Texts.forest("river 2"), "elected(0) = -1");
            e.due(Stands.logs(1, 1, 1, 1, 1, 1, 1, 1, 1, 1, 1, 1), "elected(0) = 0", "elected(11) = 11", "elected(12) = -1");
            // the FLOOD that is not told how high it is brings no WATER, and takes the DAMS
            RaftForest x = Texts.forest("river 2;village 0;wood 1;width 1 3;log 0 1 1 0;log 0 1 1 0");
            Texts.rule(x, "elect log if water=50 and [log=0 or room=3]");
            e.due(x, "force(0) = -1", "launch(1) = 0", "dam(1) = 1", "elected(0) = 1", "elected(1) = 0", "bend(1, 1) = 1");
        });
    }

    private void wedding() {
        e.in(26);
        e.edge("A WEDDING: its beams, as bits", () -> {
            e.due(Stands.logs(), "wedding(0) = 0", "count(13) = 1");
            e.due(Stands.logs(1, 1, 1, 1, 1, 1, 1, 1, 1, 1, 1, 1), "wedding(0) = 4095", "launch(11) = 0",
                    "wedding(0) = 2047", "wedding(1) = 0", "count(13) = 3", "log(11, 10) = 1", "log(0, 10) = 2");
        });
        e.edge("-2, and nothing happens, without that VILLAGE, or if there are 20.", () -> {
            e.refuses(Stands::rich, "wedding(3) = -2", "wedding(6) = -2", "wedding(-1) = -2", "wedding(MOST) = -2",
                    "wedding(LEAST) = -2");
            e.refuses(Stands::riverless, "wedding(0) = -2");
            e.refuses(() -> {
                RaftForest x = Stands.rich();
                for (int i = 3; i < 20; i++) {
                    e.due(x, "wedding(2) = 10", "count(13) = " + (i + 1));
                }
                return x;
            }, "wedding(0) = -2", "wedding(1) = -2", "wedding(3) = -2");
        });
    }

    private void winter() {
        e.in(27);
        e.edge("WINTER (n 0 to 99999): coins written off; -2, and nothing happens, without these, or a RIVER.", () -> {
            e.refuses(Stands::rich, "winter(-1) = -2", "winter(100000) = -2", "winter(MOST) = -2", "winter(LEAST) = -2",
                    "winter(0) = 0", "winter(39) = 0");
            e.refuses(Stands::riverless, "winter(0) = -2", "winter(99999) = -2");
            e.due(Stands.rich(), "winter(40) = 40", "owes(2, 1) = 0", "winter(40) = 0");
            e.due(Stands.rich(), "winter(99999) = 40");
            e.due(Texts.forest("river 2"), "winter(99999) = 0");
        });
    }

    private void days() {
        e.in(28);
        e.edge("So many DAYS (1 to 60): the DAY; -2, and nothing happens, without these (no RIVER), or if it would be above"
                + " 9999.", () -> {
                    e.refuses(Stands::rich, "days(0) = -2", "days(-1) = -2", "days(61) = -2", "days(MOST) = -2",
                            "days(LEAST) = -2");
                    e.refuses(Stands::riverless, "days(1) = -2", "days(60) = -2");
                    e.due(Stands.rich(), "days(1) = 7", "days(60) = 67");
                    e.due(Texts.forest("river 2"), "days(60) = 60");
                    e.refuses(() -> old(5), "days(6) = -2", "days(60) = -2");
                    e.due(old(5), "days(5) = 9999", "days(1) = -2");
                    e.refuses(() -> old(0), "days(1) = -2", "days(60) = -2");
                });
    }

    private void floats() {
        e.in(29);
        e.edge("NONE without these, or a RIVER.", () -> {
            e.refuses(Stands::rich, "floats(-1, 0) = -1", "floats(61, 0) = -1", "floats(MOST, 0) = -1",
                    "floats(LEAST, 0) = -1", "floats(0, -1) = -1", "floats(0, 6) = -1", "floats(0, MOST) = -1",
                    "floats(0, LEAST) = -1", "floats(0, 0) = 0", "floats(0, 5) = 0", "floats(1, 0) = 1", "floats(2, 1) = 1",
                    "floats(60, 0) = 60", "floats(60, 5) = 0");
            e.refuses(Stands::riverless, "floats(0, 0) = -1", "floats(1, 5) = -1");
        });
    }

    private void letAhead() {
        e.in(30);
        e.edge("LET AHEAD what 0: JAMS, 1 to 6: the LOGS in the WATER in that row (-2: not so many). NONE without these (more"
                + " than 6, no RIVER).", () -> {
                    e.refuses(Stands::rich, "letAhead(0, 0) = 0", "letAhead(20, 0) = 20", "letAhead(1, 1) = 2",
                            "letAhead(1, 2) = 5", "letAhead(1, 3) = -2", "letAhead(1, 6) = -2", "letAhead(1, 7) = -1",
                            "letAhead(1, -1) = -1", "letAhead(-1, 0) = -1", "letAhead(21, 0) = -1", "letAhead(MOST, 0) = -1",
                            "letAhead(LEAST, 0) = -1", "letAhead(0, MOST) = -1", "letAhead(0, LEAST) = -1",
                            "letAhead(21, 6) = -1");
                    e.refuses(Stands::riverless, "letAhead(0, 0) = -1", "letAhead(1, 1) = -1");
                    RaftForest x = Stands.logs(1, 1, 1, 1, 1, 1, 1);
                    e.due(x, "letAhead(3, 0) = 0", "letAhead(3, 1) = -2");
                    for (int log = 0; log < 6; log++) {
                        e.due(x, "launch(" + log + ") = 0", "letAhead(1, " + (log + 1) + ") = " + log,
                                "letAhead(1, " + (log + 2) + ") = " + (log == 5 ? -1 : -2));
                    }
                    e.due(x, "letAhead(1, 0) = 0", "launch(6) = 0", "letAhead(1, 0) = -1", "letAhead(1, 1) = -1",
                            "letAhead(0, 6) = -1", "land(3, 0) = true", "letAhead(1, 4) = 4");
                });
    }
}
