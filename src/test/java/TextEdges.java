/** Boundary cases of texts: part I of the Terms, and promises 1 to 5. */
final class TextEdges {
    private static final String LOG_TEXT = "river 2;village 0;wood 1;log ";
    private final Edges e;

    TextEdges(Edges edges) {
        e = edges;
    }

    void all() {
        calls();
        riverTexts();
        riverParts();
        first();
        ruleTexts();
        signs();
        words();
        plainWords();
        wordsOfNone();
        room();
        sums();
        limits();
        faults();
        faultsOfClauses();
        newObject();
        feed();
        end();
        river();
        rule();
    }

    private void calls() {
        e.in("What it is");
        e.edge("An object is used for at most 512 calls after it has been made", () -> {
            RaftForest x = new RaftForest();
            for (int i = 1; i < 512; i++) {
                x.seed(i);
            }
            e.due(x, "seed(0) = 511");
            RaftForest y = Texts.forest("river 2;village 0;wood 1;log 0 1 1 0");
            for (int i = 0; i < 508; i++) {
                y.days(1);
            }
            e.due(y, "count(7) = 508");
        });
    }

    private void riverTexts() {
        e.in("I");
        e.edge("A RIVER is a text of at most 400 bytes", () -> {
            RaftForest x = new RaftForest();
            Texts.tape(x, "river 2;" + " ".repeat(386) + "toll 7");
            e.due(x, "count(18) = 400", "river() = 0", "count(19) = 7");
            e.fails("river", "river 2" + " ".repeat(392) + "#", 399, 0);
            e.fails("river", "river 2" + " ".repeat(392) + ";", 400, 0);
            e.reads("river", "river 9", 0);
        });
        e.edge("CLAUSE { ; CLAUSE }, 40 at most", () -> {
            e.reads("river", "river2", 0);
            e.reads("river", "river2" + ";width0 1".repeat(39), 0);
            e.fails("river", "river2" + ";width0 1".repeat(40), 6 + 39 * 9 + 1, 4);
            e.fails("river", "", 0, 0);
            e.fails("river", "river2;", 7, 0);
            e.fails("river", ";river2", 0, 0);
            e.fails("river", "river2;;toll 1", 7, 0);
        });
        e.edge("river NUMBER (BENDS, 2 to 9; once, the first CLAUSE)", () -> {
            e.fails("river", "river 0", 6, 1);
            e.fails("river", "river 1", 6, 1);
            e.reads("river", "river 2", 0);
            e.reads("river", "river 9", 0);
            e.fails("river", "river 10", 6, 1);
            e.due(Texts.forest("river 2"), "count(0) = 2", "bend(1, 0) = 9", "bend(2, 0) = -1");
            e.due(Texts.forest("river 9"), "count(0) = 9", "bend(8, 0) = 9", "bend(9, 0) = -1");
            e.fails("river", "river 2;river 2", 8, 4);
            e.fails("river", "toll 1;river 2", 0, 4);
        });
        e.edge("village NUMBER (a BEND)", () -> {
            e.reads("river", "river 2;village 1", 0);
            e.fails("river", "river 2;village 2", 16, 1);
            e.reads("river", "river 9;village 8;village 0", 0);
            e.fails("river", "river 9;village 9", 16, 1);
            e.due(Texts.forest("river 9;village 8;village 0"), "village(0, 0) = 8", "village(1, 0) = 0");
        });
        e.edge("width NUMBER NUMBER (a BEND, 1 to 9; of one the last told, 9 without)", () -> {
            e.fails("river", "river 2;width 2 1", 14, 1);
            e.fails("river", "river 2;width 1 0", 16, 1);
            e.fails("river", "river 2;width 1 10", 16, 1);
            RaftForest x = Texts.forest("river 4;width 3 1;width 0 9;width 1 2;width 1 8;width 1 5");
            e.due(x, "bend(0, 0) = 9", "bend(1, 0) = 5", "bend(2, 0) = 9", "bend(3, 0) = 1");
        });
    }

    private void riverParts() {
        e.edge("wood NUMBER (its PRICE 1 to 99)", () -> {
            e.fails("river", "river 2;wood 0", 13, 1);
            e.fails("river", "river 2;wood 100", 13, 1);
            RaftForest x = Texts.forest("river 2;village 0;wood 1;wood 99;log 0 1 1 0;log 1 99 1 0");
            e.due(x, "log(0, 6) = 1", "log(1, 6) = 9801");
        });
        e.edge("a WOOD that was told", () -> {
            e.fails("river", "river 2;village 0;log 0 1 1 0;wood 1", 22, 1);
            e.fails("river", LOG_TEXT + "1 1 1 0;wood 1", 29, 1);
            e.reads("river", LOG_TEXT + "0 1 1 0;wood 1;log 1 1 1 0", 2);
            e.due(Texts.forest("river 2;village 0" + ";wood 1".repeat(4) + ";log 3 1 1 0"), "log(0, 0) = 3");
            e.fails("river", "river 2;village 0" + ";wood 1".repeat(4) + ";log 4 1 1 0", 50, 1);
        });
        e.edge("LENGTH 1 to 99, RINGS 1 to 99", () -> {
            e.fails("river", LOG_TEXT + "0 0 1 0", 31, 1);
            e.fails("river", LOG_TEXT + "0 100 1 0", 31, 1);
            e.fails("river", LOG_TEXT + "0 1 0 0", 33, 1);
            e.fails("river", LOG_TEXT + "0 1 100 0", 33, 1);
            RaftForest x = Texts.forest(LOG_TEXT + "0 1 99 0;log 0 99 1 0");
            e.due(x, "log(0, 1) = 1", "log(0, 2) = 99", "log(1, 1) = 99", "log(1, 2) = 1");
        });
        e.edge("by which VILLAGE that was told it was FELLED", () -> {
            e.fails("river", "river 2;wood 1;log 0 1 1 0;village 0", 25, 1);
            e.fails("river", LOG_TEXT + "0 1 1 1;village 1", 35, 1);
            e.reads("river", LOG_TEXT + "0 1 1 0;village 1;log 0 1 1 1", 2);
            RaftForest x = Texts.forest("river 2" + ";village 1".repeat(6) + ";wood 1;log 0 1 1 5");
            e.due(x, "log(0, 3) = 25", "notch(0, 0) = 5");
            e.fails("river", "river 2" + ";village 1".repeat(6) + ";wood 1;log 0 1 1 6", 85, 1);
        });
        e.edge("toll NUMBER (0 to 9; once at most, 0 without)", () -> {
            e.due(Texts.forest("river 2"), "count(19) = 0");
            e.due(Texts.forest("river 2;toll 0"), "count(19) = 0");
            e.due(Texts.forest("river 2;toll 9"), "count(19) = 9");
            e.fails("river", "river 2;toll 10", 13, 1);
            e.fails("river", "river 2;toll 0;toll 0", 15, 4);
            // once in each RIVER
            RaftForest x = Texts.forest("river 2;toll 3");
            e.same("another river", Texts.river(x, "river 2;toll 4"), 0);
            e.due(x, "count(19) = 4");
            e.same("another river", Texts.river(x, "river 2"), 0);
            e.due(x, "count(19) = 0");
        });
        e.edge("BENDS 0 and on, downwards; behind the last one is the MOUTH.", () -> {
            RaftForest x = Texts.forest("river 9;village 0;wood 1;log 0 1 1 0");
            e.due(x, "launch(0) = 0");
            for (int bend = 1; bend < 9; bend++) {
                e.due(x, "days(1) = " + bend, "log(0, 3) = " + bend);
            }
            e.due(x, "days(1) = 9", "log(0, 3) = 40");
        });
        e.edge("VILLAGES 0 to 5, WOODS 0 to 3, LOGS 0 to 11, in the order told.", () -> {
            StringBuilder text = new StringBuilder("river 9");
            for (int i = 0; i < 6; i++) {
                text.append(";village " + (8 - i));
            }
            text.append(";wood 9;wood 8;wood 7;wood 6");
            for (int i = 0; i < 12; i++) {
                text.append(";log " + i % 4 + " " + (i + 1) + " " + (i + 21) + " " + i % 6);
            }
            RaftForest x = Texts.forest(text.toString());
            e.due(x, "count(1) = 6", "count(2) = 4", "count(3) = 12", "village(5, 0) = 3", "village(6, 0) = -1000000",
                    "log(11, 0) = 3", "log(11, 1) = 12", "log(11, 2) = 32", "log(11, 3) = 25", "log(11, 6) = 72",
                    "log(12, 0) = -2", "log(8, 6) = 81", "log(0, 3) = 20");
            // the most of everything can be asked of all
            e.twins("nothing", () -> {
                RaftForest y = Texts.forest(text.toString());
                Texts.rule(y, "jam owner+room<day%7;take day%3=1;add room>log%4;elect owner+room;mine village+day%5 if room=0");
                for (int village = 0; village < 6; village++) {
                    Calls.run(y, "bind(" + village + ", 0)", "launch(" + (11 - village) + ")", "wedding(" + village + ")");
                }
                return Calls.run(y, "force(0)", "law(3, 0)", "days(45)");
            }, y -> { }, y -> { });
        });
    }

    private void first() {
        e.edge("At first each LOG lies ASHORE at the VILLAGE by which it was FELLED, with one NOTCH, hers;"
                + " the ORDER of LOGS is by their numbers; it is DAY 0, WATER 50.", () -> {
                    RaftForest x = Texts.forest("river 2;village 1;village 0;wood 1;log 0 1 1 1;log 0 1 1 0;log 0 1 1 1");
                    e.due(x, "log(0, 3) = 21", "log(1, 3) = 20", "log(2, 3) = 21", "log(0, 4) = 1", "notch(0, 0) = 1",
                            "notch(0, 1) = -1", "notch(1, 0) = 0", "log(0, 9) = 0", "log(1, 9) = 1", "log(2, 9) = 2",
                            "count(7) = 0", "count(8) = 50", "count(9) = 0");
                });
    }

    private void ruleTexts() {
        e.edge("RULES 0 to 5: texts likewise, 12 CLAUSES at most", () -> {
            String twelve = "mine 1" + ";mine 1".repeat(11);
            e.reads("rule", twelve, 0);
            e.fails("rule", twelve + ";mine 1", twelve.length() + 1, 4);
            RaftForest x = new RaftForest();
            for (int rule = 0; rule < 6; rule++) {
                e.same("rule", Texts.rule(x, "mine 1"), rule);
            }
            e.same("a seventh", Texts.rule(x, "mine 1"), -1);
            String long400 = "mine 1" + " ".repeat(388) + ";add 1";
            e.fails("rule", long400, 400, 0);
            e.reads("rule", "mine 1;" + " ".repeat(386) + "add 1=1", 0);
        });
        e.edge("NUMBER (1 to 5 digits, as far as digits go on)", () -> {
            e.holds("99999+1=50000*2");
            e.holds("00000=0");
            e.holds("12345=12345");
            e.fails("rule", "jam 100000=1", 4, 1);
            e.fails("rule", "jam 000000=1", 4, 1);
            e.fails("rule", "jam =1", 4, 0);
            e.fails("rule", "jam 1 2=1", 6, 0);
        });
        e.edge("WORDS (small letters, as far as these go on)", () -> {
            e.reads("rule", "jamlog=1", -3);
            e.reads("rule", "jam log=1andday=2", -3 - 8 * 9);
            e.reads("rule", "jam 1=1and 2=2or day=2", 0);
            e.fails("rule", "jam logs=1", 4, 0);
            e.fails("rule", "jam lo=1", 4, 0);
            e.fails("rule", "jam LOG=1", 4, 0);
            e.fails("rule", "jam loG=1", 4, 0);
            e.fails("rule", "jam log@=1", 7, 0);
            e.fails("rule", "jam log`=1", 7, 0);
            e.fails("rule", "jam log{=1", 7, 0);
        });
    }

    private void signs() {
        e.edge("SIGN one of < <= = >= >.", () -> {
            e.holds("1<2 and not 2<2 and not 3<2");
            e.holds("1<=2 and 2<=2 and not 3<=2");
            e.holds("2=2 and not 1=2 and not 3=2");
            e.holds("3>=2 and 2>=2 and not 1>=2");
            e.holds("3>2 and not 2>2 and not 1>2");
            for (String sign : new String[] {"==", "=<", "=>", "<>", "<<", ">>", "><", "<==", ">=="}) {
                e.fails("rule", "jam 1" + sign + "2", sign.length() > 2 ? 7 : 6, 0);
            }
            e.fails("rule", "jam 1!2", 5, 0);
            e.fails("rule", "jam 1<2<3", 7, 0);
            e.reads("rule", "jam 1<=2", 0);
            e.fails("rule", "jam 1<=", 7, 0);
            e.fails("rule", "jam 1<", 6, 0);
        });
        e.edge("TEST: PART { or PART }. PART: FACT { and FACT }. FACT: not FACT | [ TEST ] (these brackets are signs)", () -> {
            e.holds("1=1 or 1=1 and 1=2");
            e.holds("1=2 and 1=1 or 1=1");
            e.holds("not [[1=1 or 1=1] and 1=2]");
            e.holds("not 1=1 or 1=1");
            e.holds("not 1=2 and not 1=2");
            e.holds("not not 1=1 and not not not 1=2");
            e.holds("1=2 or 1=2 or 1=2 or 1=1");
            e.fails("rule", "jam []", 5, 0);
            e.fails("rule", "jam [1=1", 8, 0);
            e.fails("rule", "jam not", 7, 0);
            e.fails("rule", "jam 1=1 and", 11, 0);
        });
    }

    /** Of WORDS that are numbers of the LOG or of the DAY the least and the greatest. */
    private void plainWords() {
        e.edge("log, wood, length, rings,", () -> {
            RaftForest x = Texts.forest("river 2;village 0" + ";wood 1".repeat(4) + ";log 0 1 99 0" + ";log 0 2 2 0".repeat(10)
                    + ";log 3 99 1 0");
            Texts.rule(x, "jam log=0 and wood=0 and length=1 and rings=99");
            Texts.rule(x, "jam log=11 and wood=3 and length=99 and rings=1");
            e.due(x, "launch(0) = 0", "launch(5) = 0", "launch(11) = 0", "force(0) = -1", "days(1) = 1", "log(0, 8) = 1",
                    "log(5, 8) = 0", "log(11, 8) = 0", "land(0, 0) = true", "force(1) = 0", "land(5, 0) = false",
                    "days(1) = 2", "log(11, 3) = 1", "log(11, 8) = 1");
            e.due(x, "launch(0) = 0", "days(1) = 3", "log(0, 8) = 0");
            RaftForest y = Texts.forest("river 2;village 0" + ";wood 1".repeat(4) + ";log 0 2 2 0".repeat(11) + ";log 3 99 1 0");
            Texts.rule(y, "jam log=11 and wood=3 and length=99 and rings=1");
            e.due(y, "launch(11) = 0", "force(0) = -1", "days(1) = 1", "log(11, 8) = 1", "saw(11, 98) = 1",
                    "floats(1, 0) = 0");
        });
        e.edge("mine: 0), water, day.", () -> {
            RaftForest x = Texts.forest("river 2;village 0;wood 1;log 0 1 1 0");
            Texts.rule(x, "jam water=50 and day=0");
            Texts.rule(x, "jam water=999 and day=60");
            e.due(x, "launch(0) = 0", "force(0) = -1", "floats(2, 0) = 1", "flood(1) = 51", "floats(1, 0) = 0",
                    "land(0, 0) = true", "days(59) = 59", "force(1) = 0");
            for (int i = 0; i < 10; i++) {
                x.flood(99);
            }
            e.due(x, "count(8) = 999", "launch(0) = 0", "floats(1, 0) = 0", "land(0, 0) = true", "days(1) = 60",
                    "launch(0) = 0", "floats(1, 0) = 1");
        });
    }

    private void words() {
        e.edge("the MOUTH as many as there are BENDS", () -> {
            for (int bends : new int[] {2, 9}) {
                RaftForest x = Texts.forest("river " + bends + ";village " + (bends - 1) + ";wood 1;log 0 1 1 0");
                Texts.rule(x, "mine 1 if bend=" + bends);
                e.due(x, "law(3, 0) = 0", "log(0, 5) = -1", "launch(0) = " + (bends - 1), "log(0, 5) = -1",
                        "days(1) = 1", "log(0, 3) = 40", "log(0, 5) = 0", "village(0, 2) = 1");
            }
        });
        e.edge("village (which takes, adds or claims it; 9 else)", () -> {
            RaftForest x = Texts.forest("river 3;village 0;village 1;wood 1;log 0 1 1 0;log 0 1 1 1");
            Texts.rule(x, "take village=1;add village=0;elect 1 if village=9 and log=1;mine 1 if village=1");
            Texts.rule(x, "jam village=9;take village=9;add village=9;mine 1 if village=9");
            e.due(x, "bind(0, 0) = -1", "bind(1, 0) = -1", "force(0) = -1", "floats(2, 3) = 1", "floats(2, 4) = 1",
                    "elected(0) = 1", "law(3, 0) = 0", "log(0, 5) = -1", "log(1, 5) = 1", "force(1) = 0",
                    "launch(1) = 1", "floats(1, 0) = 1", "bind(0, 1) = 0", "bind(1, 1) = 0", "floats(2, 3) = 0",
                    "floats(2, 4) = 0", "law(3, 1) = 3", "log(0, 5) = -1");
        });
        e.edge("owner (9 none; 9 for mine)", () -> {
            RaftForest x = Texts.forest("river 3;village 0;wood 1;log 0 1 1 0");
            Texts.rule(x, "jam owner=9;mine 1 if owner=9");
            Texts.rule(x, "mine 1 if owner<9 or owner>9");
            Texts.rule(x, "jam owner=0");
            e.due(x, "force(0) = -1", "launch(0) = 0", "floats(1, 0) = 0", "law(3, 0) = 0", "log(0, 5) = 0",
                    "floats(1, 0) = 0", "law(3, 1) = 3", "log(0, 5) = -1", "floats(1, 0) = 1", "force(2) = 0",
                    "floats(1, 0) = 0", "law(0, 0) = 3", "floats(1, 0) = 1");
        });
    }

    /** Both LOGS in the WATER at BEND 0: the mud has taken the one NOTCH of LOG 0, LOG 1 has one of VILLAGE 0. */
    private static RaftForest muddy(String rule) {
        RaftForest x = Texts.forest("river 3;village 0;village 0;wood 1;log 0 1 1 1;log 0 1 1 0");
        Texts.rule(x, "jam log=0");
        Texts.rule(x, rule);
        return Calls.run(x, "launch(0)", "force(0)", "days(3)", "launch(1)", "force(1)");
    }

    private void wordsOfNone() {
        e.edge("felled (its first NOTCH; 9 none)", () -> {
            e.due(muddy("jam felled=9"), "log(0, 4) = 0", "days(1) = 4", "log(0, 8) = 1", "log(1, 8) = 0");
            e.due(muddy("jam felled=0"), "days(1) = 4", "log(0, 8) = 0", "log(1, 8) = 1");
            e.due(muddy("jam felled=1"), "cut(1, 1) = 2", "days(1) = 4", "log(0, 8) = 0", "log(1, 8) = 0");
            e.due(muddy("jam felled=1"), "cut(0, 1) = 1", "cut(0, 0) = 2", "days(1) = 4", "log(0, 8) = 1");
        });
        e.edge("last (its last NOTCH; 9 none)", () -> {
            e.due(muddy("jam last=9"), "log(0, 4) = 0", "days(1) = 4", "log(0, 8) = 1", "log(1, 8) = 0");
            e.due(muddy("jam last=0"), "days(1) = 4", "log(0, 8) = 0", "log(1, 8) = 1");
            e.due(muddy("jam last=1"), "cut(1, 1) = 2", "cut(0, 1) = 1", "cut(0, 0) = 2", "days(1) = 4", "log(0, 8) = 0",
                    "log(1, 8) = 1");
        });
        e.edge("notches (how many)", () -> {
            e.due(muddy("jam notches=0"), "days(1) = 4", "log(0, 8) = 1", "log(1, 8) = 0");
            e.due(muddy("jam notches=6"), "cut(1, 0) = 2", "cut(1, 0) = 3", "cut(1, 0) = 4", "cut(1, 0) = 5",
                    "floats(1, 0) = 0", "cut(1, 0) = 6", "floats(1, 0) = 1");
        });
    }

    private void room() {
        e.edge("room (jam, take, elect: how many LOGS more could come to the next BEND, 99 at the last one;", () -> {
            RaftForest x = Texts.forest("river 2;village 0;village 1;wood 1;width 1 2;log 0 1 1 0;log 0 1 1 1;log 0 1 1 1");
            Texts.rule(x, "jam room=99;take room=99;elect 1 if room=99");
            Texts.rule(x, "jam room=2");
            Texts.rule(x, "jam room=0 and log=0");
            Texts.rule(x, "take room=1;jam 1=1");
            e.due(x, "force(0) = -1", "launch(0) = 0", "floats(1, 0) = 0", "force(1) = 0", "floats(1, 0) = 1",
                    "force(3) = 1", "bind(0, 3) = -1", "floats(1, 3) = 0", "launch(1) = 1", "floats(1, 3) = 1",
                    "bind(0, NONE) = 3", "launch(2) = 1", "force(1) = 3", "floats(1, 0) = 1", "force(2) = 1",
                    "floats(1, 0) = 1", "force(0) = 2", "floats(1, 0) = 3", "elected(0) = 1", "elected(1) = 2",
                    "elected(2) = 0", "bind(1, 0) = -1", "floats(1, 3) = 2");
        });
        e.edge("0 for elect, if it is not in the water; add: to the VILLAGE's BEND; mine: 0)", () -> {
            RaftForest x = Texts.forest("river 3;village 0;village 1;wood 1;width 0 5;width 1 4;log 0 1 1 0;log 0 1 1 0;"
                    + "log 0 1 1 1");
            Texts.rule(x, "elect 1 if room=0;add room=5;mine 1 if room=0");
            Texts.rule(x, "elect 1 if room=3;add room=4;mine 1 if room>0 or room<0");
            e.due(x, "launch(0) = 0", "force(0) = -1", "elected(0) = 1", "elected(1) = 2", "elected(2) = 0",
                    "bind(0, 0) = -1", "floats(1, 4) = 1", "floats(2, 4) = 1", "bind(0, 1) = 0", "floats(1, 4) = 0",
                    "bind(1, 0) = -1", "floats(1, 4) = 0", "bind(1, 1) = 0", "bind(0, NONE) = 1", "floats(1, 4) = 0",
                    "floats(2, 4) = 1", "law(3, 0) = 0", "log(0, 5) = 0", "log(1, 5) = 0", "law(3, 1) = 3",
                    "log(0, 5) = -1", "log(1, 5) = -1");
        });
    }

    private void sums() {
        String least = "65536*65536*65536*32768";
        e.edge("/ is towards 0, % its rest, both 0 by 0; all goes round in 64 bits.", () -> {
            e.holds("7/2=3");
            e.holds("7%2=1");
            e.holds("3-10/3*4=0-9");
            // below 0 alone by going round
            e.holds(least + "<0");
            e.holds(least + "/99999=0-" + Long.MAX_VALUE / 99999 / 1000000000 + "*10000*10000*10-"
                    + (Long.MAX_VALUE / 99999 % 1000000000) / 10000 + "*10000-" + Long.MAX_VALUE / 99999 % 10000);
            e.holds(least + "%99999=0-" + Long.remainderUnsigned(Long.MIN_VALUE, 99999));
            e.holds("5/0=0 and 5%0=0 and 0/0=0 and 0%0=0");
            e.holds(least + "/0=0 and " + least + "%0=0");
            e.holds("1/0*0+9/0+2=2");
            e.holds(least + "*2=0");
            e.holds(least + "-1>0");
            e.holds(least + "-1+1<0");
            e.holds("65536*65536*65536*65536=0");
            e.holds("0-1<0");
        });
        e.edge("Blanks (32) stand between as one likes.", () -> {
            e.reads("rule", "jam1=1and2=2", 0);
            e.reads("rule", "   jam   1   =   1   and   2   =   2   ", 0);
            e.reads("river", "  river  2  ;  wood  1  ", 0);
            e.reads("river", "river2;wood1", 0);
            for (char sign : new char[] {0, 9, 10, 13, 31, 33, 160, 255}) {
                e.fails("rule", "jam" + sign + "1=1", 3, 0);
                e.fails("river", "river" + sign + "2", 5, 0);
                e.fails("river", "river 2" + sign, 7, 0);
            }
            // within a NUMBER, a WORD or a SIGN they part it
            e.fails("river", "ri ver 2", 0, 0);
            e.fails("rule", "jam 1< =1", 7, 0);
            e.fails("rule", "jam 1 0=1", 6, 0);
        });
    }

    private void limits() {
        e.edge("[ and not lie within one another 10 deep at most", () -> {
            e.reads("rule", "jam " + "[".repeat(10) + "1=1" + "]".repeat(10), 0);
            e.fails("rule", "jam " + "[".repeat(11) + "1=1" + "]".repeat(11), 14, 2);
            e.reads("rule", "jam " + "not ".repeat(10) + "1=1", 0);
            e.fails("rule", "jam " + "not ".repeat(11) + "1=1", 44, 2);
            e.reads("rule", "jam " + "not[".repeat(5) + "1=1" + "]".repeat(5), 0);
            e.fails("rule", "jam " + "not[".repeat(5) + "[1=1]" + "]".repeat(5), 24, 2);
            e.fails("rule", "jam " + "not[".repeat(5) + "1=1 and not 1=1" + "]".repeat(5), 32, 2);
            // what is closed is not deep any more
            e.reads("rule", "jam " + "[1=1] and ".repeat(12) + "not 1=1 or not 1=1", 0);
            e.reads("rule", "jam " + "[".repeat(9) + "[1=1] or [1=1] and not 1=1" + "]".repeat(9), 0);
            e.reads("rule", "jam " + "[".repeat(10) + "1=1" + "]".repeat(10) + ";add " + "[".repeat(10) + "1=1"
                    + "]".repeat(10), 0);
        });
        e.edge("at most 60 VALUES (of SUMS) and FACTS made of a SIGN, together.", () -> {
            String twenty = "jam 1=1" + " or 1=1".repeat(19);
            e.reads("rule", twenty, 0);
            e.fails("rule", twenty + " or 1=1", twenty.length() + 4, 3);
            // not and [ are none of these
            e.reads("rule", twenty.replace("jam 1=1", "jam not [not 1=1]"), 0);
            e.reads("rule", "elect 1" + "*1".repeat(59), 0);
            e.fails("rule", "elect 1" + "*1".repeat(60), 6 + 120, 3);
            // of a RULE, not of a CLAUSE
            e.reads("rule", "elect 1" + "+1".repeat(29) + ";mine 1" + "+1".repeat(29), 0);
            e.fails("rule", "elect 1" + "+1".repeat(29) + ";mine 1" + "+1".repeat(30), 71 + 60, 3);
            RaftForest x = new RaftForest();
            for (int rule = 0; rule < 6; rule++) {
                e.same("60 of each rule", Texts.rule(x, twenty), rule);
            }
            String fifty7 = "elect 1" + "+1".repeat(56);
            e.reads("rule", fifty7 + " if 1=1", 0);
            e.fails("rule", fifty7 + "+1 if 1=1", fifty7.length() + 8, 3);
        });
    }

    private void faults() {
        e.edge("FAULTS, the first along the text, 1 + 8 * its place and:", () -> {
            e.fails("river", "river 1;river 1;#", 6, 1);
            e.fails("river", "#river 1", 0, 0);
            e.fails("river", "river 2;village 5;river 3;#", 16, 1);
            e.fails("rule", "jam 100000=1;" + "mine 1;".repeat(20) + "#", 4, 1);
            e.fails("rule", "jam " + "[".repeat(11) + "100000", 14, 2);
            RaftForest x = new RaftForest();
            Texts.tape(x, "#");
            e.due(x, "river() = -3");
            Texts.tape(x, " #");
            e.due(x, "rule() = -11");
        });
        e.edge("0 a byte or WORD that can't stand there, or the end (behind the last byte);", () -> {
            e.fails("river", "", 0, 0);
            e.fails("rule", "", 0, 0);
            e.fails("river", "   ", 3, 0);
            e.fails("rule", "   ", 3, 0);
            e.fails("river", "river", 5, 0);
            e.fails("river", "river 2;width 1   ", 18, 0);
            e.fails("rule", "jam [1=1 ", 9, 0);
            e.fails("rule", "mine 1 if", 9, 0);
            e.fails("rule", "jam 1=1 or", 10, 0);
            e.fails("river", "stream 2", 0, 0);
            e.fails("river", "river 2;jam 1=1", 8, 0);
            e.fails("rule", "river 2", 0, 0);
            e.fails("rule", "jam day if 1=1", 8, 0);
            e.fails("rule", "mine 1=1", 6, 0);
            e.fails("rule", "jam 1=1]", 7, 0);
            e.fails("rule", "jam if=1", 4, 0);
            e.fails("river", "river two", 6, 0);
            e.fails("river", "river 2 2", 8, 0);
            for (int sign : new int[] {0, 127, 128, 255}) {
                e.fails("rule", "jam 1=" + (char) sign, 6, 0);
            }
        });
        e.edge("1 a NUMBER of more digits (5 at most), or not as told (at it);", () -> {
            e.reads("river", "river 00002", 0);
            e.fails("river", "river 000002", 6, 1);
            e.fails("river", "river   000002", 8, 1);
            e.reads("rule", "mine 00000", 0);
            e.fails("rule", "mine 000000", 5, 1);
            e.fails("rule", "mine 1+99999999999999999999999", 7, 1);
            e.fails("river", "river 4294967298", 6, 1);
            e.fails("river", "river 2;width 1 0", 16, 1);
        });
        e.edge("2 too deep (at the sign that opens, or the word not);", () -> {
            e.fails("rule", "jam " + "[ ".repeat(11), 24, 2);
            e.fails("rule", "jam " + "[".repeat(10) + "  not 1=1", 16, 2);
            e.fails("rule", "mine 1 if " + "not ".repeat(10) + "[1=1]", 50, 2);
        });
        e.edge("3 one VALUE or FACT too many (at its first byte; of a FACT at its SIGN);", () -> {
            String fifty8 = "elect 1" + "+1".repeat(57);
            e.fails("rule", fifty8 + "+1+1+  length", fifty8.length() + 7, 3);
            e.fails("rule", fifty8 + "+1 if log  >= day", fifty8.length() + 11, 3);
            e.fails("rule", fifty8 + " if 12=  345", fifty8.length() + 9, 3);
            e.fails("rule", fifty8 + " if 12", fifty8.length() + 6, 0);
        });
    }

    private void faultsOfClauses() {
        e.edge("4 one CLAUSE too many, a second river or toll, another CLAUSE ahead of river, a seventh VILLAGE, a fifth WOOD,"
                + " a 13th LOG (at its first byte).", () -> {
                    e.fails("river", "river2" + ";width0 1".repeat(39) + ";  width0 1", 360, 4);
                    e.fails("river", "river 2;  river 3", 10, 4);
                    e.fails("river", "river 2;toll 1; toll 2", 16, 4);
                    for (String kind : new String[] {"village", "width", "wood", "log", "toll"}) {
                        e.fails("river", "  " + kind + " 0;river 2", 2, 4);
                    }
                    e.reads("river", "river 2" + ";village 1".repeat(6), 0);
                    e.fails("river", "river 2" + ";village 1".repeat(6) + "; village 1", 69, 4);
                    e.reads("river", "river 2" + ";wood 1".repeat(4), 0);
                    e.fails("river", "river 2" + ";wood 1".repeat(4) + "; wood 1", 37, 4);
                    e.reads("river", LOG_TEXT + "0 1 1 0" + ";log 0 1 1 0".repeat(11), 12);
                    e.fails("river", LOG_TEXT + "0 1 1 0" + ";log 0 1 1 0".repeat(12), 169, 4);
                    e.fails("rule", "mine 1" + ";mine 1".repeat(11) + ";  jam", 86, 4);
                });
        e.edge("Of one place the least.", () -> {
            e.fails("river", "river2" + ";width0 1".repeat(39) + ";widths", 358, 0);
            e.fails("river", "lake", 0, 0);
            e.fails("rule", "mine 1" + ";mine 1".repeat(11) + ";yours 1", 84, 0);
            String sixty = "elect 1" + "+1".repeat(59);
            e.fails("rule", sixty + "+100000", sixty.length() + 1, 1);
            e.fails("rule", sixty + "+lengths", sixty.length() + 1, 0);
            e.fails("rule", sixty + "+1", sixty.length() + 1, 3);
            e.fails("rule", sixty + "+", sixty.length() + 1, 0);
        });
    }

    private void newObject() {
        e.in(1);
        e.edge("No RIVER, no RULES.", () -> {
            RaftForest x = new RaftForest();
            e.due(x, "count(0) = 0", "count(1) = 0", "count(2) = 0", "count(3) = 0", "count(4) = 0", "count(5) = -1",
                    "count(17) = 0", "count(18) = 0", "force(0) = -2", "force(NONE) = -2", "bind(0, NONE) = -2",
                    "law(0, 0) = -2", "days(1) = -2", "undo() = -2", "back(0) = -1");
            Texts.river(x, "river 2;village 0");
            e.due(x, "force(0) = -2", "bind(0, 0) = -2", "law(3, 0) = -2", "count(5) = -1", "village(0, 1) = -1");
        });
    }

    private void feed() {
        e.in(2);
        e.edge("Twenty bytes come behind the TAPE, of each number the highest first: how many it has", () -> {
            RaftForest x = new RaftForest();
            for (int size = 20; size <= 400; size += 20) {
                e.due(x, "feed(LEAST, -1, 0, MOST, 128) = " + size);
            }
            // "rive" "r 2;" "wood" "1  ;" "toll", behind "   " " 9": all in their order, and behind what is there
            RaftForest y = new RaftForest();
            e.due(y, "feed(1919514213, 1914712635, 2003791716, 824188987, 1953459308) = 20", "end(20) = 20",
                    "feed(540614688, 538976288, 538976288, 538976288, 538976288) = 40", "river() = 0", "count(2) = 1",
                    "count(19) = 9");
            // 255 is a byte, not a number below 0: behind "jam 1=1", and as the first byte of a number
            e.due(y, "feed(1784769824, 826094079, 0, 0, 0) = 20", "rule() = " + Texts.fault(7, 0),
                    "feed(-1, 0, 0, 0, 0) = 20", "rule() = " + Texts.fault(0, 0));
        });
        e.edge("NONE, and none comes, if it would have more than 400.", () -> {
            for (int size = 380; size <= 400; size++) {
                RaftForest x = new RaftForest();
                Texts.tape(x, "river 2" + " ".repeat(size - 7));
                int due = size == 380 ? 400 : -1;
                e.due(x, "feed(0, 0, 0, 0, 0) = " + due, "count(18) = " + (size == 380 ? 400 : size),
                        "river() = " + (size == 380 ? Texts.fault(380, 0) : 0));
            }
        });
    }

    private void end() {
        e.in(3);
        e.edge("The TAPE has its first n bytes alone: n", () -> {
            RaftForest x = new RaftForest();
            e.due(x, "end(0) = 0");
            Texts.tape(x, "river 2;wood 1;toll 3");
            e.due(x, "end(21) = 21", "count(18) = 21", "end(14) = 14", "count(18) = 14", "end(15) = -1", "end(14) = 14",
                    "river() = 0", "count(2) = 1", "count(19) = 0");
            Texts.tape(x, "river 2;wood 1;toll 3");
            e.due(x, "end(1) = 1", "end(0) = 0", "count(18) = 0", "river() = -3");
            // a NUMBER, a WORD and a SIGN end there, whatever lay behind
            Texts.tape(x, "river 29");
            e.due(x, "end(7) = 7", "river() = 0", "count(0) = 2");
            Texts.tape(x, "jam 1=length;");
            e.due(x, "end(9) = 9", "rule() = " + Texts.fault(6, 0));
            Texts.tape(x, "jam day=days");
            e.due(x, "end(11) = 11", "rule() = 0");
            Texts.tape(x, "jam 1<=1");
            e.due(x, "end(6) = 6", "rule() = " + Texts.fault(6, 0));
            // what comes behind comes at once behind the first n
            Texts.tape(x, "jam ");
            e.due(x, "end(3) = 3", "feed(826093856, 538976288, 538976288, 538976288, 538976288) = 23", "rule() = 1");
        });
        e.edge("NONE, and nothing happens, if it has not so many, or n is below 0.", () -> {
            e.refuses(RaftForest::new, "end(1) = -1", "end(-1) = -1", "end(MOST) = -1", "end(LEAST) = -1");
            e.refuses(Stands::rich, "end(7) = -1", "end(-1) = -1", "end(400) = -1", "end(401) = -1", "end(MOST) = -1",
                    "end(LEAST) = -1");
        });
    }

    private void river() {
        e.in(4);
        e.edge("The TAPE, which is empty then, is the RIVER in place of the one there was (LAW 0, no RULE IN FORCE, none of"
                + " VILLAGES, no debts, WEDDINGS, SIGHTS, nothing to be UNDONE; x stays): how many LOGS", () -> {
                    String text = "river 4;village 1;village 1;village 2;wood 3;log 0 9 5 0;log 0 6 2 1;log 0 7 3 2";
                    RaftForest x = Stands.rich();
                    Texts.tape(x, text);
                    e.due(x, "river() = 3", "count(18) = 0", "count(6) = 0", "count(5) = -1", "village(2, 1) = -1",
                            "owes(2, 1) = 0", "count(13) = 0", "kinOf(0) = 1", "count(14) = 0", "parted(1, 0, 0) = -2",
                            "count(15) = 0", "undo() = -2", "count(17) = 99", "count(7) = 0", "count(8) = 50",
                            "was(0, 1) = -2", "village(0, 2) = 0", "count(16) = 0", "bend(3, 1) = 0", "bend(2, 0) = 9",
                            "count(19) = 0", "log(0, 3) = 20", "log(0, 9) = 0", "count(4) = 2");
                    // but for RULES, IMAGES and x it is as the RIVER of a new object
                    e.twins("a river in place of another one", RaftForest::new, y -> {
                        Texts.river(y, "river 9" + ";village 1".repeat(6) + ";wood 9" + ";log 0 9 9 5".repeat(12));
                        Texts.rule(y, "jam log<3;mine 1 if log<3");
                        Calls.run(y, "wedding(5)", "sight(3, 0, 1)", "launch(3)", "days(1)", "sight(3, 0, 2)", "days(33)");
                        Calls.run(y, "launch(0)", "launch(1)", "launch(2)", "launch(4)", "force(0)", "law(3, 0)", "days(10)");
                        e.due(y, "count(16) = 30", "log(1, 8) = 1", "count(12) = 3", "village(4, 2) = 13", "land(0, 4) = true");
                        Calls.run(y, "cut(1, 5)", "dam(8)", "flood(3)", "ahead(9, 0)", "saw(2, 2)", "law(1, 0)", "burn(0)");
                        Texts.river(y, text);
                    }, y -> {
                        Texts.rule(y, "jam log<3;mine 1 if log<3");
                        Texts.river(y, text);
                    });
                    Texts.tape(x, "river 2");
                    e.due(x, "river() = 0", "count(3) = 0", "count(1) = 0", "payments() = 0", "elected(0) = -1");
                });
        e.edge("-2 - its FAULT, and all stays.", () -> {
            for (String text : new String[] {"", "river", "river 3;village 0;wood 5;log 0 1 1 0;log 0 1 1 9", "toll 1",
                "river 9;width 0 1;toll 3;width 9 1"}) {
                e.twins("a river with a fault", Stands::rich, y -> Texts.river(y, text), y -> y.end(0));
                e.twins("a river with a fault", Stands::riverless, y -> Texts.river(y, text), y -> y.end(0));
            }
            RaftForest x = Stands.rich();
            Texts.tape(x, "river 0");
            e.due(x, "river() = " + Texts.fault(6, 1), "count(18) = 0", "river() = -3", "count(0) = 4");
            e.same("a river behind a fault", Texts.river(x, "river 3;village 2;wood 1;log 0 1 1 0"), 1);
            e.due(x, "count(0) = 3", "count(1) = 1");
        });
    }

    private void rule() {
        e.in(5);
        e.edge("The TAPE, which is empty then, is a RULE: its number", () -> {
            RaftForest x = new RaftForest();
            for (int rule = 0; rule < 6; rule++) {
                Texts.tape(x, "mine " + rule);
                e.due(x, "rule() = " + rule, "count(18) = 0", "count(4) = " + (rule + 1));
            }
        });
        e.edge("-2 - its FAULT", () -> {
            RaftForest x = new RaftForest();
            Texts.tape(x, "mine");
            e.due(x, "rule() = " + Texts.fault(4, 0), "count(18) = 0", "count(4) = 0");
            for (String text : new String[] {"", "jam", "jam 1=1;take 1=1;elect 5;mine 9;#"}) {
                e.twins("a rule with a fault", Stands::rich, y -> Texts.rule(y, text), y -> y.end(0));
                // nor is anything of it left in the RULE that comes next
                e.twins("a rule behind a fault", Stands::rich, y -> {
                    Texts.rule(y, text);
                    Texts.rule(y, "elect 1");
                    Calls.run(y, "force(2)", "bind(0, 2)", "bind(1, 2)", "law(3, 2)");
                }, y -> {
                    Texts.rule(y, "elect 1");
                    Calls.run(y, "force(2)", "bind(0, 2)", "bind(1, 2)", "law(3, 2)");
                });
            }
        });
        e.edge("NONE, and nothing happens: there are 6.", () -> {
            for (String text : new String[] {"mine 1", "jam", ""}) {
                e.refuses(() -> {
                    RaftForest x = Stands.rich();
                    for (int rule = 2; rule < 6; rule++) {
                        Texts.rule(x, "mine " + rule);
                    }
                    Texts.tape(x, text);
                    return x;
                }, "rule() = -1");
            }
        });
    }
}
