/** Boundary cases of what is asked, drawn and gone back to: part III of the Terms, and promises 31 to 45. */
final class PastEdges {
    private final Edges e;

    PastEdges(Edges edges) {
        e = edges;
    }

    void all() {
        asked();
        rows();
        kinTerms();
        pastTerms();
        sightTerms();
        debtTerms();
        drawTerms();
        imageTerms();
        constants();
        kin();
        kinOf();
        was();
        wereAt();
        likely();
        sight();
        parted();
        owes();
        payments();
        repaid();
        seed();
        drawn();
        count();
        image();
        back();
    }

    private void asked() {
        e.in("III");
        e.edge("(By what is asked nothing changes.)", () -> {
            String[] rows = {"bend(2, 3) = 1", "village(1, 4) = 128", "log(5, 6) = 12", "notch(7, 0) = 1", "votes(3, 0) = 1",
                "elected(0) = 3", "floats(60, 0) = 60", "letAhead(20, 0) = 20", "kin(1, 3) = 1", "kinOf(1) = 26",
                "was(5, 1) = 1", "wereAt(5, 5, 1) = 3", "likely(5, 5, 1, 0, 1) = 2", "parted(5, 0, 3) = 3",
                "owes(2, 1) = 40", "payments() = 1", "repaid(2, 1, 1) = 2", "drawn(10, 60, 100, 2) = 600", "count(8) = 58"};
            e.refuses(Stands::rich, rows);
        });
        e.edge("FLOATS: what n DAYS (0 to 60) would bring.", () -> {
            RaftForest x = Stands.logs(5, 6);
            Texts.rule(x, "jam log=1;add 1=1");
            e.due(x, "launch(0) = 0", "launch(1) = 0", "force(0) = -1", "floats(0, 0) = 0", "floats(0, 1) = 0",
                    "floats(0, 2) = 0", "floats(1, 0) = 1", "floats(1, 1) = 0", "floats(2, 1) = 1", "floats(2, 2) = 5",
                    "floats(60, 0) = 60", "floats(60, 5) = 1", "floats(61, 0) = -1", "floats(60, 2) = 5");
        });
    }

    private void rows() {
        e.edge("LET AHEAD (n 0 to 20): of all ORDERS in which the LOGS that are in the WATER now (6 at most) change places among"
                + " themselves that by which fewest JAMS are in n DAYS, of several the first, as a row of LOGS.", () -> {
                    RaftForest x = Texts.forest("river 2;village 0;wood 1;width 1 1" + ";log 0 1 1 0".repeat(8));
                    e.due(x, "launch(5) = 0", "ahead(5, 0) = 5", "letAhead(1, 0) = 0", "letAhead(1, 1) = 5",
                            "launch(3) = 0", "letAhead(1, 0) = 1", "letAhead(1, 1) = 3", "letAhead(1, 2) = 5",
                            "letAhead(1, 3) = -2", "letAhead(0, 0) = 0", "letAhead(0, 1) = 3", "letAhead(20, 0) = 1",
                            "log(5, 9) = 0", "log(3, 9) = 4");
                    // of 720 rows the last one alone: each waits for those of greater numbers to float ahead
                    RaftForest y = Texts.forest("river 2;village 0;wood 1;width 1 6" + ";log 0 1 1 0".repeat(6));
                    Texts.rule(y, "jam bend=0 and not room=log+1");
                    e.due(y, "force(0) = -1");
                    for (int log = 0; log < 6; log++) {
                        e.due(y, "launch(" + log + ") = 0");
                    }
                    e.due(y, "letAhead(1, 0) = 0");
                    for (int place = 1; place <= 6; place++) {
                        e.due(y, "letAhead(1, " + place + ") = " + (6 - place));
                    }
                    everyRow();
                    // a LOG that is not in the WATER keeps its place between those that change
                    RaftForest z = Texts.forest("river 2;village 0;wood 1;width 1 1;log 0 1 1 0;log 0 1 1 0;log 0 1 1 0");
                    Texts.rule(z, "add log=1 and day=0;jam log=1 and bend=0 and day=1");
                    e.due(z, "launch(0) = 0", "launch(2) = 0", "bind(0, 0) = -1", "force(0) = -1", "letAhead(2, 0) = 2",
                            "letAhead(2, 1) = 0", "letAhead(2, 2) = 2", "elected(1) = 1");
                    e.due(Stands.logs(1, 1), "letAhead(20, 0) = 0", "letAhead(0, 1) = -2");
                });
    }

    /** Each of the rows of four LOGS, as the only one by which nothing jams: each LOG waits for its place to come. */
    private void everyRow() {
        for (int number = 0; number < 256; number++) {
            int[] row = {number / 64, number / 16 % 4, number / 4 % 4, number % 4};
            if ((1 << row[0] | 1 << row[1] | 1 << row[2] | 1 << row[3]) != 15) {
                continue;
            }
            RaftForest x = Texts.forest("river 2;village 0;wood 1;width 1 4" + ";log 0 1 1 0".repeat(4));
            StringBuilder rule = new StringBuilder("jam bend=0");
            for (int place = 0; place < 4; place++) {
                rule.append(" and not [log=" + row[place] + " and room=" + (4 - place) + "]");
            }
            x.force(Texts.rule(x, rule.toString()));
            Calls.run(x, "launch(0)", "launch(1)", "launch(2)", "launch(3)");
            e.due(x, "letAhead(1, 0) = 0");
            for (int place = 0; place < 4; place++) {
                e.due(x, "letAhead(1, " + (place + 1) + ") = " + row[place]);
            }
        }
    }

    private void kinTerms() {
        e.edge("KIN: two LOGS that were beams of one WEDDING (20 are kept, then there is no more) are KIN by one step; by steps"
                + " from LOG to LOG: the fewest; all that are KIN to one.", () -> {
                    RaftForest x = chain();
                    e.due(x, "kin(0, 11) = 11", "kin(11, 0) = 11", "kin(0, 1) = 1", "kin(5, 5) = 0", "kinOf(6) = 4095",
                            "count(13) = 11");
                    // the fewest: a wedding of 0, 11 and 10, which lie there still
                    e.due(x, "launch(0) = 0", "land(0, 1) = true", "wedding(1) = 2049", "kin(0, 11) = 1", "kin(0, 10) = 2",
                            "kin(0, 6) = 6", "kin(0, 7) = 5");
                    for (int i = 12; i < 20; i++) {
                        e.due(x, "wedding(1) = 2049");
                    }
                    e.due(x, "launch(5) = 0", "land(5, 1) = true", "wedding(1) = -2", "kin(0, 5) = 5", "log(5, 10) = 2",
                            "log(0, 10) = 10");
                });
    }

    /** Twelve LOGS, each of which was a beam with the one ahead of it, at VILLAGE 1; 11 lies there. */
    private static RaftForest chain() {
        RaftForest x = Texts.forest("river 2;village 0;village 0;wood 1" + ";log 0 1 1 0".repeat(12));
        x.launch(0);
        x.land(0, 1);
        for (int log = 1; log < 12; log++) {
            x.launch(log);
            x.land(log, 1);
            x.wedding(1);
            x.launch(log - 1);
            x.land(log - 1, 0);
        }
        return x;
    }

    /** LOG 0 behind DAYS 6 to 1 ago: ASHORE at VILLAGE 2, at BENDS 0 (twice), 1, 2, 3; VILLAGES 0 and 1 at BEND 1, 3 at 3. */
    private static RaftForest passed() {
        RaftForest x = Texts.forest("river 5;village 1;village 1;village 0;village 3;wood 1;log 0 1 1 2");
        Texts.rule(x, "jam day<3");
        return Calls.run(x, "force(0)", "days(1)", "launch(0)", "days(5)");
    }

    private void pastTerms() {
        e.edge("WAS: where a LOG was behind the DAY so many ago (1 the last one).", () -> {
            RaftForest x = passed();
            e.due(x, "was(0, 0) = -2", "was(0, 1) = 3", "was(0, 2) = 2", "was(0, 3) = 1", "was(0, 4) = 0", "was(0, 5) = 0",
                    "was(0, 6) = 22", "was(0, 7) = -2", "land(0, 3) = true", "was(0, 1) = 3", "burn(0) = 1",
                    "was(0, 1) = 3", "days(1) = 7", "was(0, 1) = 41", "was(0, 7) = 22", "was(0, 8) = -2");
        });
        e.edge("behind one of the DAYS from one ago to another one ago;", () -> {
            RaftForest x = passed();
            e.due(x, "wereAt(0, 1, 1) = 8", "wereAt(0, 2, 2) = 0", "wereAt(0, 3, 3) = 3", "wereAt(0, 6, 6) = 4",
                    "wereAt(0, 6, 4) = 4", "wereAt(0, 5, 4) = 4", "wereAt(0, 3, 2) = 3", "wereAt(0, 2, 1) = 8",
                    "wereAt(0, 6, 1) = 15", "wereAt(0, 6, 2) = 7", "wereAt(0, 5, 1) = 15");
        });
        e.edge("LIKELY of a VILLAGE: each of these DAYS counts alike, shared by those that it was at (nobody's DAY is lost): a"
                + " fraction in lowest terms.", () -> {
                    RaftForest x = passed();
                    likely(x, 6, 6, 2, 1, 1);
                    likely(x, 6, 6, 0, 0, 1);
                    likely(x, 3, 3, 0, 1, 2);
                    likely(x, 2, 2, 0, 0, 1);
                    likely(x, 2, 1, 3, 1, 2);
                    likely(x, 6, 1, 2, 1, 2);
                    likely(x, 6, 1, 0, 1, 12);
                    likely(x, 6, 1, 3, 1, 6);
                    likely(x, 4, 2, 1, 1, 6);
                    likely(x, 4, 2, 2, 1, 3);
                    for (int sharers = 1; sharers <= 6; sharers++) {
                        RaftForest y = Texts.forest("river 2" + ";village 0".repeat(sharers) + ";wood 1;log 0 1 1 0");
                        Texts.rule(y, "jam 1=1");
                        Calls.run(y, "force(0)", "launch(0)", "days(30)");
                        likely(y, 30, 1, sharers - 1, 1, sharers);
                        likely(y, 1, 1, 0, 1, sharers);
                        // one DAY more that is hers alone
                        Calls.run(y, "land(0, 0)", "days(1)");
                        likely(y, 30, 1, 0, 29 + sharers, 30 * sharers);
                    }
                });
    }

    /** A fraction that is not in lowest terms is made so here. */
    private void likely(RaftForest x, int from, int to, int village, int above, int below) {
        int common = java.math.BigInteger.valueOf(above).gcd(java.math.BigInteger.valueOf(below)).intValue();
        String call = "likely(0, " + from + ", " + to + ", " + village + ", ";
        e.due(x, call + "0) = " + above / common, call + "1) = " + below / common);
    }

    private void sightTerms() {
        e.edge("SIGHTS 0 to 19, told: on this DAY the NOTCH at a place of a LOG was a VILLAGE's, or none was there.", () -> {
            RaftForest x = Stands.logs(1, 1);
            e.due(x, "days(9) = 9");
            for (int i = 0; i < 19; i++) {
                e.due(x, "sight(0, 0, 0) = " + (i + 1));
            }
            e.due(x, "parted(0, 0, 0) = -2", "days(1) = 10", "sight(0, 0, NONE) = 20", "parted(0, 0, 0) = 19",
                    "parted(0, 0, 1) = 9", "parted(0, 0, 2) = 10", "sight(0, 0, 0) = -2", "parted(0, 0, 0) = 19");
        });
        e.edge("PARTED of a LOG and a place: the first of its SIGHTS there that is not as the one told ahead of it:", () -> {
            RaftForest x = Stands.logs(1, 1);
            e.due(x, "parted(0, 0, 0) = -2", "sight(0, 0, 1) = 1", "parted(0, 0, 0) = -2", "sight(1, 0, 0) = 2",
                    "sight(0, 1, 0) = 3", "parted(0, 0, 0) = -2", "sight(0, 0, 1) = 4", "parted(0, 0, 0) = -2",
                    "sight(0, 5, NONE) = 5", "sight(0, 0, 0) = 6", "parted(0, 0, 0) = 5", "sight(0, 0, 1) = 7",
                    "parted(0, 0, 0) = 5", "parted(1, 0, 0) = -2", "parted(0, 1, 0) = -2", "sight(0, 5, 0) = 8",
                    "parted(0, 5, 0) = 7");
        });
        e.edge("all it WERE AT behind the DAYS from that of the earlier one to the one ahead of the later one (as far as these"
                + " are kept).", () -> {
                    RaftForest x = Texts.forest("river 9;village 1;village 2;village 3;village 4;village 5;village 0;wood 1;"
                            + "log 0 1 1 5");
                    e.due(x, "launch(0) = 0", "days(1) = 1", "sight(0, 0, 5) = 1", "days(2) = 3", "sight(0, 0, 2) = 2",
                            "parted(0, 0, 3) = 6", "wereAt(0, 2, 1) = 6", "days(2) = 5", "parted(0, 0, 3) = 6",
                            "wereAt(0, 4, 3) = 6");
                    // DAY 1 is the 30th ago at DAY 31, and no more kept at DAY 32
                    e.due(x, "days(26) = 31", "parted(0, 0, 3) = 6", "wereAt(0, 30, 29) = 6", "days(1) = 32",
                            "parted(0, 0, 3) = 4", "wereAt(0, 30, 30) = 4", "days(1) = 33", "parted(0, 0, 3) = 0",
                            "parted(0, 0, 0) = 1", "parted(0, 0, 1) = 1", "parted(0, 0, 2) = 3", "days(60) = 93",
                            "parted(0, 0, 3) = 0");
                    // of one DAY nobody could have
                    e.due(x, "sight(NONE, 0, 0) = 0", "sight(0, 0, 1) = 1", "sight(0, 0, 2) = 2", "parted(0, 0, 0) = 1",
                            "parted(0, 0, 3) = 0");
                    RaftForest y = Stands.logs(1);
                    e.due(y, "sight(0, 0, 1) = 1", "sight(0, 0, 0) = 2", "parted(0, 0, 3) = 0", "sight(NONE, 0, 0) = 0",
                            "sight(0, 0, 1) = 1", "days(1) = 1", "sight(0, 0, 0) = 2", "parted(0, 0, 3) = 1");
                });
    }

    /** VILLAGES at one BEND; each text: who burns a LOG, whose, of how many coins. */
    private static RaftForest owing(int villages, String... debts) {
        StringBuilder text = new StringBuilder("river 2" + ";village 0".repeat(villages) + ";wood 1");
        for (String debt : debts) {
            text.append(";log 0 " + debt.split(" ")[2] + " 1 " + debt.split(" ")[1]);
        }
        RaftForest x = Texts.forest(text.toString());
        for (int log = 0; log < debts.length; log++) {
            Calls.run(x, "launch(" + log + ")", "land(" + log + ", " + debts[log].split(" ")[0] + ")", "burn(" + log + ")");
        }
        return x;
    }

    private void debtTerms() {
        e.edge("NET of a VILLAGE: what she is owed less what she owes. The fewest PAYMENTS, from one to another one, behind"
                + " which all NETS are 0.", () -> {
                    e.due(owing(6), "payments() = 0", "village(5, 5) = 0");
                    e.due(owing(2, "0 1 5"), "payments() = 1", "village(0, 5) = -5", "village(1, 5) = 5");
                    e.due(owing(2, "0 1 5", "1 0 5"), "payments() = 0", "village(0, 5) = 0");
                    e.due(owing(3, "0 1 5", "1 2 5"), "payments() = 1", "village(1, 5) = 0");
                    e.due(owing(6, "0 5 1", "1 5 2", "2 5 4", "3 5 8", "4 5 16"), "payments() = 5");
                    e.due(owing(6, "0 1 1", "2 3 2", "4 5 4"), "payments() = 3");
                    e.due(owing(6, "0 2 3", "1 2 4", "3 4 2", "3 5 3"), "payments() = 4");
                    e.due(owing(6, "0 1 1", "1 2 1", "2 3 1", "3 4 1", "4 5 1", "5 0 1"), "payments() = 0");
                    e.due(owing(1), "payments() = 0");
                });
        e.edge("of which she is the OWNER, those whose PRICES together are what she owes another one at least: that with the"
                + " least sum, of several the fewest, then the least as bits.", () -> {
                    repaid(9, "7 5 4 2", 9, 2 + 4);
                    repaid(8, "7 5 4 2", 9, 2 + 4);
                    repaid(10, "7 5 4 2", 11, 1 + 4);
                    repaid(18, "7 5 4 2", 18, 15);
                    repaid(19, "7 5 4 2", -2, -2);
                    repaid(7, "7 5 4 2", 7, 1);
                    // of one sum the fewest, of as many the least as bits
                    repaid(9, "4 5 3 6 9", 9, 16);
                    repaid(9, "4 5 3 6", 9, 3);
                    repaid(9, "6 3 4 5", 9, 3);
                    repaid(5, "5 5 5", 5, 1);
                    repaid(1, "3", 3, 1);
                    repaid(4, "3", -2, -2);
                });
    }

    /** VILLAGE 0 owes 1 a debt and has LOGS of these coins. */
    private void repaid(int debt, String coins, int sum, int set) {
        StringBuilder text = new StringBuilder("river 2;village 0;village 0;wood 1");
        int count = 0;
        for (String length : coins.split(" ")) {
            text.append(";log 0 " + length + " 1 0");
            count++;
        }
        RaftForest x = Texts.forest(text + ";log 0 " + debt + " 1 1;log 0 1 1 1");
        Calls.run(x, "launch(" + count + ")", "land(" + count + ", 0)", "burn(" + count + ")");
        // one that lies there and is not hers is no help
        Calls.run(x, "launch(" + (count + 1) + ")", "land(" + (count + 1) + ", 0)");
        e.due(x, "owes(0, 1) = " + debt, "repaid(0, 1, 0) = " + sum, "repaid(0, 1, 1) = " + set, "repaid(1, 0, 0) = 0",
                "repaid(1, 0, 1) = 0");
    }

    private void drawTerms() {
        e.edge("DRAWS: x (0 to 2147483647; 0 at first) becomes x * 1103515245 + 12345, of 2147483648 the rest; a DRAW is x /"
                + " 65536.", () -> {
                    e.due(new RaftForest(), "count(17) = 0");
                    // of each x a DRAW mod 100 is below p from one p on
                    for (long x : new long[] {0, 1, 2147483647L, 2147483646L, 1073741824L, 65535, 65536, 987654321}) {
                        long draw = (x * 1103515245L + 12345) % 2147483648L / 65536 % 100;
                        RaftForest forest = Texts.forest("river 2");
                        forest.seed((int) x);
                        e.due(forest, "drawn(1, 1, " + draw + ", 2) = 0", "drawn(1, 1, " + (draw + 1) + ", 2) = 1",
                                "count(17) = " + x);
                    }
                });
        e.edge("DRAWN m times (1 to 10) from now on, n DAYS (1 to 60): ahead of each, if a DRAW mod 100 is below p (0 to 100), a"
                + " FLOOD of a DRAW mod 10:", () -> {
                    RaftForest x = Texts.forest("river 2");
                    e.due(x, "drawn(1, 1, 0, 2) = 0", "drawn(10, 60, 0, 2) = 0", "drawn(1, 1, 100, 2) = 1",
                            "drawn(10, 60, 100, 2) = 600", "drawn(1, 60, 100, 2) = 60", "drawn(10, 1, 100, 2) = 10");
                    // ahead of the DAY: DAMS are gone, WATER is more, the ORDER is new
                    RaftForest y = Texts.forest("river 2;village 0;wood 1;width 1 1;log 0 1 1 0");
                    e.due(y, "launch(0) = 0", "dam(1) = 1", "floats(1, 0) = 1", "drawn(1, 1, 0, 0) = 1",
                            "drawn(1, 1, 100, 0) = 0", "drawn(10, 1, 0, 0) = 10", "drawn(10, 1, 100, 0) = 0");
                    waterOfDraws();
                });
        e.edge("JAMS, coins of LOGS SOLD, FLOODS, all together (x goes on; behind it x is as it was).", () -> {
            RaftForest x = Stands.logs(5);
            e.due(x, "launch(0) = 0", "seed(77) = 0");
            long drawn = 77;
            int floods = 0;
            for (int m = 1; m <= 10; m++) {
                for (int day = 0; day < 7; day++) {
                    drawn = (drawn * 1103515245L + 12345) % 2147483648L;
                    if (drawn / 65536 % 100 < 40) {
                        floods++;
                        drawn = (drawn * 1103515245L + 12345) % 2147483648L;
                    }
                }
                e.due(x, "drawn(" + m + ", 7, 40, 2) = " + floods, "drawn(" + m + ", 7, 40, 1) = " + 5 * m,
                        "drawn(" + m + ", 7, 40, 0) = 0", "count(17) = 77");
            }
        });
    }

    /** Each FLOOD is of the second DRAW mod 10: a LOG jams by the WATER that it should make, and by no other. */
    private void waterOfDraws() {
        for (int seed = 0; seed < 20; seed++) {
            long first = (seed * 1103515245L + 12345) % 2147483648L;
            long second = (first * 1103515245L + 12345) % 2147483648L;
            int water = 50 + (int) (second / 65536 % 10);
            RaftForest x = Stands.logs(5);
            Texts.rule(x, "jam water=" + water);
            Texts.rule(x, "jam water<" + water + " or water>" + water);
            x.seed(seed);
            e.due(x, "launch(0) = 0", "force(0) = -1", "drawn(1, 1, 100, 0) = 1", "force(1) = 0",
                    "drawn(1, 1, 100, 0) = 0", "drawn(1, 1, 0, 0) = " + (water == 50 ? 0 : 1));
        }
    }

    private void imageTerms() {
        e.edge("IMAGES 0 to 3: all but the RULES and the TAPE, as it is (what can be UNDONE, too); gone back to, it is as it was"
                + " (these stay).", () -> {
                    // what comes behind an IMAGE is gone: but for the IMAGE itself, all is as of a twin to whom nothing came
                    e.twins("going back", Stands::rich, x -> {
                        x.image(3);
                        changeAll(x);
                        e.same("back", x.back(3), 6);
                    }, x -> x.image(3));
                    e.twins("going back over another river", Stands::rich, x -> {
                        x.image(0);
                        otherRiver(x);
                        e.same("coins of the sea", x.count(12), 2);
                        e.same("back", x.back(0), 6);
                        Texts.tape(x, "mine 5");
                    }, x -> x.image(0));
                    e.twins("going back over sights of another village", Stands::rich, x -> {
                        Calls.run(x, "image(0)", "sight(NONE, 0, 0)", "sight(5, 0, 1)", "sight(5, 0, 1)", "back(0)");
                    }, x -> x.image(0));
                    e.twins("going back over sights of another place", Stands::rich, x -> {
                        Calls.run(x, "image(0)", "sight(NONE, 0, 0)", "sight(5, 1, 1)", "sight(5, 1, NONE)", "back(0)");
                    }, x -> x.image(0));
                    e.twins("going back to no river", Stands::riverless, x -> {
                        Texts.river(x, "river 9;village 0;wood 1;log 0 9 9 0");
                        Calls.run(x, "seed(5)", "days(9)", "wedding(0)", "cut(0, 0)", "sight(0, 0, 0)", "flood(9)");
                        e.same("back", x.back(2), 0);
                        Texts.tape(x, "mine 5");
                    }, x -> { });
                    RaftForest x = Stands.rich();
                    e.due(x, "image(0) = 6", "end(3) = 3");
                    e.due(x, "back(0) = 6", "count(18) = 3", "end(0) = 0", "back(0) = 6", "count(18) = 0");
                    Texts.rule(x, "jam 1=1");
                    e.due(x, "back(0) = 6", "count(4) = 3", "force(2) = 1", "floats(1, 0) = 2");
                    // IMAGES stay, and each is its own
                    RaftForest y = Stands.logs(9);
                    for (int k = 0; k < 4; k++) {
                        e.due(y, "image(" + k + ") = " + k, "cut(0, 0) = " + (k + 2), "saw(0, 1) = " + (8 - k),
                                "days(1) = " + (k + 1));
                    }
                    for (int k : new int[] {3, 0, 2, 1, 1, 3}) {
                        e.due(y, "back(" + k + ") = " + k, "count(15) = " + k, "log(0, 4) = " + (k + 1),
                                "log(0, 1) = " + (9 - k), "undo() = " + (k == 0 ? -2 : 0));
                    }
                });
    }

    private static void changeAll(RaftForest x) {
        Calls.run(x, "force(0)", "bind(2, NONE)", "bind(0, 0)", "law(3, 0)", "undo()", "undo()", "cut(5, 0)", "cutOver(1, 0, 2)");
        Calls.run(x, "winter(99999)", "flood(20)", "dam(0)", "saw(3, 2)", "ahead(7, 0)", "seed(5)", "wedding(1)", "wedding(2)");
        Calls.run(x, "sight(NONE, 0, 0)", "sight(1, 0, 0)", "launch(7)", "land(2, 2)", "days(40)", "burn(3)", "burn(4)");
    }

    private static void otherRiver(RaftForest x) {
        Texts.river(x, "river 9" + ";village 3".repeat(6) + ";wood 9;wood 8;width 2 9;width 3 8;toll 7" + ";log 1 7 9 5".repeat(12));
        Calls.run(x, "launch(0)", "launch(1)", "cut(0, 1)", "cutOver(0, 0, 2)", "land(1, 0)", "burn(1)", "law(3, 1)");
        Calls.run(x, "sight(4, 1, 3)", "launch(4)", "days(3)", "sight(4, 1, 3)", "wedding(5)", "days(50)", "flood(9)", "dam(8)");
        Calls.run(x, "seed(1)");
    }

    private void constants() {
        e.edge("The constants: `NONE = -1`: None.", () -> e.same("NONE", RaftForest.NONE, -1));
    }

    private void kin() {
        e.in(31);
        e.edge("KIN by so many steps (0: itself); -2: not at all; NONE without these.", () -> {
            e.refuses(Stands::rich, "kin(0, 0) = 0", "kin(6, 6) = 0", "kin(7, 7) = 0", "kin(1, 4) = 1", "kin(3, 4) = 2",
                    "kin(0, 1) = -2", "kin(6, 0) = -2", "kin(8, 8) = -1", "kin(8, 0) = -1", "kin(0, 8) = -1",
                    "kin(-1, 0) = -1", "kin(0, -1) = -1", "kin(-1, -1) = -1", "kin(12, 12) = -1", "kin(0, 31) = -1",
                    "kin(0, 32) = -1", "kin(MOST, 0) = -1", "kin(0, MOST) = -1", "kin(LEAST, 0) = -1", "kin(0, LEAST) = -1");
            e.refuses(Stands::riverless, "kin(0, 0) = -1");
            e.due(chain(), "kin(0, 11) = 11", "kin(0, 12) = -1");
        });
    }

    private void kinOf() {
        e.in(32);
        e.edge("All LOGS that are KIN to one, by any steps (itself, too), as bits; NONE without it.", () -> {
            e.refuses(Stands::rich, "kinOf(6) = 64", "kinOf(0) = 165", "kinOf(3) = 26", "kinOf(8) = -1", "kinOf(-1) = -1",
                    "kinOf(12) = -1", "kinOf(32) = -1", "kinOf(MOST) = -1", "kinOf(LEAST) = -1");
            e.refuses(Stands::riverless, "kinOf(0) = -1");
            e.due(chain(), "kinOf(0) = 4095", "kinOf(11) = 4095");
            e.due(Stands.logs(1), "kinOf(0) = 1");
        });
    }

    private void was() {
        e.in(33);
        e.edge("WAS, as in log what 3; -2 without these (that DAY is not kept).", () -> {
            e.refuses(Stands::rich, "was(0, 1) = 40", "was(0, 6) = 20", "was(0, 7) = -2", "was(0, 0) = -2", "was(0, -1) = -2",
                    "was(8, 1) = -2", "was(-1, 1) = -2", "was(12, 1) = -2", "was(0, MOST) = -2", "was(0, LEAST) = -2",
                    "was(MOST, 1) = -2", "was(LEAST, 1) = -2", "was(0, 30) = -2", "was(0, 31) = -2");
            e.refuses(Stands::riverless, "was(0, 1) = -2", "was(0, 0) = -2");
            e.due(Calls.run(Stands.logs(1), "days(60)"), "was(0, 30) = 20", "was(0, 31) = -2", "was(0, 60) = -2");
        });
    }

    private void wereAt() {
        e.in(34);
        e.edge("WERE AT, as bits (from at least to, to at least 1, from as many as are kept at most); NONE without these.", () -> {
            e.refuses(Stands::rich, "wereAt(5, 6, 6) = 1", "wereAt(5, 5, 1) = 3", "wereAt(5, 6, 1) = 3", "wereAt(5, 7, 1) = -1",
                    "wereAt(5, 7, 7) = -1", "wereAt(5, 1, 1) = 3", "wereAt(5, 1, 2) = -1", "wereAt(5, 1, 0) = -1",
                    "wereAt(5, 0, 0) = -1", "wereAt(5, 0, 1) = -1", "wereAt(5, -1, -1) = -1", "wereAt(5, 1, -1) = -1",
                    "wereAt(8, 1, 1) = -1", "wereAt(-1, 1, 1) = -1", "wereAt(5, MOST, 1) = -1", "wereAt(5, MOST, MOST) = -1",
                    "wereAt(5, LEAST, LEAST) = -1", "wereAt(5, 1, LEAST) = -1", "wereAt(MOST, 1, 1) = -1",
                    "wereAt(LEAST, 1, 1) = -1", "wereAt(5, 5, 6) = -1");
            e.refuses(Stands::riverless, "wereAt(0, 1, 1) = -1");
            e.due(Stands.logs(1), "wereAt(0, 1, 1) = -1", "days(30) = 30", "wereAt(0, 30, 1) = 1", "wereAt(0, 30, 30) = 1",
                    "wereAt(0, 31, 1) = -1", "days(1) = 31", "wereAt(0, 30, 1) = 1", "wereAt(0, 31, 1) = -1",
                    "wereAt(0, 31, 31) = -1");
        });
    }

    private void likely() {
        e.in(35);
        e.edge("LIKELY part 0: above, 1: below the line; NONE without these (as with wereAt).", () -> {
            e.refuses(Stands::rich, "likely(5, 5, 1, 0, 0) = 1", "likely(5, 5, 1, 0, 1) = 2", "likely(5, 5, 1, 2, 0) = 0",
                    "likely(5, 5, 1, 2, 1) = 1", "likely(5, 6, 1, 0, 0) = 7", "likely(5, 6, 1, 0, 1) = 12",
                    "likely(5, 7, 1, 0, 0) = -1", "likely(5, 1, 2, 0, 0) = -1", "likely(5, 1, 0, 0, 0) = -1",
                    "likely(5, 0, 0, 0, 1) = -1", "likely(8, 1, 1, 0, 0) = -1", "likely(-1, 1, 1, 0, 0) = -1",
                    "likely(5, 1, 1, 3, 0) = -1", "likely(5, 1, 1, -1, 0) = -1", "likely(5, 1, 1, 6, 1) = -1",
                    "likely(5, 1, 1, 0, 2) = -1", "likely(5, 1, 1, 0, -1) = -1", "likely(5, MOST, 1, 0, 0) = -1",
                    "likely(5, 1, LEAST, 0, 0) = -1", "likely(5, 1, 1, MOST, 0) = -1", "likely(5, 1, 1, 0, MOST) = -1",
                    "likely(5, 1, 1, LEAST, LEAST) = -1", "likely(MOST, 1, 1, 0, 0) = -1", "likely(5, 1, 1, 32, 0) = -1");
            e.refuses(Stands::riverless, "likely(0, 1, 1, 0, 0) = -1");
            e.due(Calls.run(Stands.logs(1), "days(31)"), "likely(0, 30, 1, 0, 0) = 1", "likely(0, 31, 1, 0, 0) = -1");
        });
    }

    private void sight() {
        e.in(36);
        e.edge("A SIGHT (village NONE: none is there; log NONE: there are no SIGHTS then, 0): how many", () -> {
            RaftForest x = Stands.rich();
            e.due(x, "sight(0, 5, NONE) = 3", "sight(7, 0, 2) = 4", "count(14) = 4", "sight(NONE, 0, 0) = 0", "count(14) = 0",
                    "parted(5, 0, 0) = -2", "sight(NONE, MOST, LEAST) = 0", "sight(0, 0, 0) = 1", "sight(NONE, 6, 9) = 0");
            e.due(new RaftForest(), "sight(NONE, 0, 0) = 0", "count(14) = 0");
            RaftForest y = Stands.rich();
            for (int i = 2; i < 20; i++) {
                y.sight(0, 0, 0);
            }
            e.due(y, "count(14) = 20", "sight(NONE, 0, 0) = 0", "count(14) = 0", "sight(5, 0, 0) = 1");
        });
        e.edge("-2, and nothing happens, without these (place 0 to 5), or if there are 20.", () -> {
            e.refuses(Stands::rich, "sight(8, 0, 0) = -2", "sight(-2, 0, 0) = -2", "sight(12, 0, 0) = -2",
                    "sight(5, -1, 0) = -2", "sight(5, 6, 0) = -2", "sight(5, 0, 3) = -2", "sight(5, 0, 6) = -2",
                    "sight(5, 0, -2) = -2", "sight(MOST, 0, 0) = -2", "sight(LEAST, 0, 0) = -2", "sight(5, MOST, 0) = -2",
                    "sight(5, LEAST, 0) = -2", "sight(5, 0, MOST) = -2", "sight(5, 0, LEAST) = -2", "sight(5, -1, NONE) = -2");
            e.refuses(Stands::riverless, "sight(0, 0, 0) = -2", "sight(0, 0, NONE) = -2");
            e.refuses(() -> {
                RaftForest x = Stands.rich();
                for (int i = 2; i < 20; i++) {
                    e.due(x, "sight(1, " + i % 6 + ", NONE) = " + (i + 1));
                }
                return x;
            }, "sight(0, 0, 0) = -2", "sight(1, 0, NONE) = -2", "sight(8, 0, 0) = -2");
        });
    }

    private void parted() {
        e.in(37);
        e.edge("PARTED what 0: the number of that SIGHT (0 and on), 1: the DAY of the one ahead of it, 2: its DAY, 3: who could"
                + " have, as bits. -2: they do not part; NONE without these.", () -> {
                    e.refuses(Stands::rich, "parted(5, 0, 0) = 1", "parted(5, 0, 1) = 1", "parted(5, 0, 2) = 4",
                            "parted(5, 0, 3) = 3", "parted(5, 5, 0) = -2", "parted(5, 1, 3) = -2", "parted(0, 0, 0) = -2",
                            "parted(7, 0, 2) = -2", "parted(5, 6, 0) = -1", "parted(5, -1, 0) = -1", "parted(5, 0, 4) = -1",
                            "parted(5, 0, -1) = -1", "parted(8, 0, 0) = -1", "parted(-1, 0, 0) = -1", "parted(12, 0, 0) = -1",
                            "parted(0, 0, 4) = -1", "parted(MOST, 0, 0) = -1", "parted(LEAST, 0, 0) = -1",
                            "parted(5, MOST, 0) = -1", "parted(5, LEAST, 0) = -1", "parted(5, 0, MOST) = -1",
                            "parted(5, 0, LEAST) = -1");
                    e.refuses(Stands::riverless, "parted(0, 0, 0) = -1");
                });
    }

    private void owes() {
        e.in(38);
        e.edge("What one VILLAGE owes another one; NONE without these (unlike).", () -> {
            e.refuses(Stands::rich, "owes(2, 1) = 40", "owes(1, 2) = 0", "owes(0, 1) = 0", "owes(0, 0) = -1", "owes(2, 2) = -1",
                    "owes(3, 0) = -1", "owes(0, 3) = -1", "owes(5, 4) = -1", "owes(6, 0) = -1", "owes(-1, 0) = -1",
                    "owes(0, -1) = -1", "owes(MOST, 0) = -1", "owes(0, MOST) = -1", "owes(LEAST, 0) = -1", "owes(0, LEAST) = -1");
            e.refuses(Stands::riverless, "owes(0, 1) = -1");
        });
    }

    private void payments() {
        e.in(39);
        e.edge("The fewest PAYMENTS; NONE without a RIVER.", () -> {
            e.refuses(Stands::riverless, "payments() = -1");
            e.refuses(RaftForest::new, "payments() = -1");
            e.refuses(Stands::rich, "payments() = 1");
            e.due(Texts.forest("river 2"), "payments() = 0");
            e.due(owing(6, "0 5 1", "1 5 2", "2 5 4", "3 5 8", "4 5 16"), "payments() = 5", "winter(16) = 31",
                    "payments() = 0");
        });
    }

    private void repaid() {
        e.in(40);
        e.edge("REPAID what 0: the sum, 1: the set; -2: there is none; NONE without these.", () -> {
            e.refuses(Stands::rich, "repaid(2, 1, 0) = 40", "repaid(2, 1, 1) = 2", "repaid(2, 0, 0) = 0", "repaid(0, 1, 1) = 0",
                    "repaid(2, 2, 0) = -1", "repaid(0, 0, 1) = -1", "repaid(2, 3, 0) = -1", "repaid(3, 2, 0) = -1",
                    "repaid(2, -1, 0) = -1", "repaid(-1, 2, 0) = -1", "repaid(6, 1, 0) = -1", "repaid(2, 1, 2) = -1",
                    "repaid(2, 1, -1) = -1", "repaid(MOST, 1, 0) = -1", "repaid(2, MOST, 0) = -1", "repaid(2, 1, MOST) = -1",
                    "repaid(LEAST, 1, 0) = -1", "repaid(2, LEAST, 0) = -1", "repaid(2, 1, LEAST) = -1");
            e.refuses(() -> Calls.run(Stands.rich(), "saw(1, 1)", "burn(3)"), "repaid(2, 1, 0) = -2", "repaid(2, 1, 1) = -2");
            e.refuses(Stands::riverless, "repaid(0, 1, 0) = -1");
            // all twelve: eleven LOGS of 1 coin are not enough for 12, and are for 11
            RaftForest x = Texts.forest("river 2;village 0;village 0;wood 1;log 0 12 1 1" + ";log 0 1 1 0".repeat(11));
            e.due(x, "launch(0) = 0", "land(0, 0) = true", "burn(0) = 12", "repaid(0, 1, 0) = -2", "repaid(0, 1, 1) = -2");
            RaftForest y = Texts.forest("river 2;village 0;village 0;wood 1;log 0 11 1 1" + ";log 0 1 1 0".repeat(11));
            e.due(y, "launch(0) = 0", "land(0, 0) = true", "burn(0) = 11", "repaid(0, 1, 0) = 11", "repaid(0, 1, 1) = 4094");
        });
    }

    private void seed() {
        e.in(41);
        e.edge("x becomes a number: what it was; NONE, and nothing happens, below 0.", () -> {
            e.refuses(Stands::rich, "seed(-1) = -1", "seed(LEAST) = -1", "seed(-2) = -1");
            e.refuses(Stands::riverless, "seed(-1) = -1");
            e.due(new RaftForest(), "seed(0) = 0", "seed(MOST) = 0", "count(17) = 2147483647", "seed(1) = MOST", "seed(0) = 1",
                    "count(17) = 0");
        });
    }

    private void drawn() {
        e.in(42);
        e.edge("DRAWN what 0: JAMS, 1: coins, 2: FLOODS. NONE without these, or a RIVER.", () -> {
            e.refuses(Stands::rich, "drawn(0, 1, 0, 0) = -1", "drawn(11, 1, 0, 0) = -1", "drawn(1, 0, 0, 0) = -1",
                    "drawn(1, 61, 0, 0) = -1", "drawn(1, 1, -1, 0) = -1", "drawn(1, 1, 101, 0) = -1", "drawn(1, 1, 0, -1) = -1",
                    "drawn(1, 1, 0, 3) = -1", "drawn(-1, 1, 0, 0) = -1", "drawn(1, -1, 0, 0) = -1", "drawn(MOST, 1, 0, 0) = -1",
                    "drawn(1, MOST, 0, 0) = -1", "drawn(1, 1, MOST, 0) = -1", "drawn(1, 1, 0, MOST) = -1",
                    "drawn(LEAST, LEAST, LEAST, LEAST) = -1", "drawn(10, 60, 100, 2) = 600", "drawn(1, 1, 0, 0) = 1");
            e.refuses(Stands::riverless, "drawn(1, 1, 0, 0) = -1", "drawn(1, 1, 100, 2) = -1");
        });
    }

    private void count() {
        e.in(43);
        e.edge("What 0: BENDS, 1: VILLAGES, 2: WOODS, 3: LOGS, 4: RULES,", () -> {
            RaftForest x = Texts.forest("river 9" + ";village 0".repeat(6) + ";wood 1".repeat(4) + ";log 0 1 1 0".repeat(12));
            for (int rule = 0; rule < 6; rule++) {
                Texts.rule(x, "mine 1");
            }
            e.due(x, "count(0) = 9", "count(1) = 6", "count(2) = 4", "count(3) = 12", "count(4) = 6", "count(16) = 0");
        });
        e.edge("9: LOGS in the WATER, 10: SOLD, 11: BURNT,", () -> {
            RaftForest x = Stands.logs(1, 1, 1, 1, 1, 1, 1, 1, 1, 1, 1, 1);
            Texts.rule(x, "jam bend=0");
            e.due(x, "count(9) = 0", "count(10) = 0", "count(11) = 0", "launch(0) = 0", "count(9) = 1", "launch(11) = 0",
                    "count(9) = 2", "force(0) = -1", "days(2) = 2", "count(16) = 4", "force(NONE) = 0", "days(1) = 3",
                    "count(9) = 2", "days(1) = 4", "count(9) = 0", "count(10) = 2", "count(16) = 4");
            for (int log = 1; log < 11; log++) {
                e.due(x, "burn(" + log + ") = 1", "count(11) = " + log);
            }
            e.due(Stands.logs(1, 1), "burn(0) = 1", "count(11) = 1", "burn(1) = 1", "count(11) = 2", "count(10) = 0");
        });
        e.edge("5: the RULE IN FORCE (NONE),", () -> e.due(Stands.rich(), "count(5) = 1", "force(NONE) = 1", "count(5) = -1",
                "force(0) = -1", "count(5) = 0"));
        e.edge("15: NOTCHES that can be UNDONE (kept),", () -> {
            RaftForest x = Stands.rich();
            Texts.rule(x, "take 1=1;jam 1=1");
            e.due(x, "count(15) = 6", "launch(7) = 1", "bind(0, 2) = -1", "force(2) = 1", "days(1) = 7", "notch(7, 5) = 0",
                    "undo() = -2", "count(15) = 6");
        });
        e.edge("NONE for others (5 without a RIVER, too).", () -> {
            e.refuses(Stands::rich, "count(-1) = -1", "count(20) = -1", "count(MOST) = -1", "count(LEAST) = -1",
                    "count(0) = 4", "count(19) = 1");
            RaftForest x = Stands.riverless();
            e.due(x, "count(5) = -1", "count(-1) = -1", "count(20) = -1", "count(4) = 1", "count(17) = 11", "count(18) = 6");
            for (int what : new int[] {0, 1, 2, 3, 6, 7, 9, 10, 11, 12, 13, 14, 15, 16, 19}) {
                e.due(x, "count(" + what + ") = 0");
            }
        });
    }

    private void image() {
        e.in(44);
        e.edge("An IMAGE is made: the DAY; NONE without it.", () -> {
            e.refuses(Stands::rich, "image(-1) = -1", "image(4) = -1", "image(MOST) = -1", "image(LEAST) = -1");
            e.refuses(Stands::riverless, "image(-1) = -1", "image(4) = -1", "image(2) = 0");
            for (int k = 0; k < 4; k++) {
                RaftForest x = Stands.rich();
                e.due(x, "image(" + k + ") = 6", "days(1) = 7", "back(" + k + ") = 6");
                // made anew: the last one counts
                e.due(x, "days(2) = 8", "image(" + k + ") = 8", "days(1) = 9", "back(" + k + ") = 8");
            }
        });
    }

    private void back() {
        e.in(45);
        e.edge("All is as in an IMAGE: the DAY; NONE, and nothing happens, if it was never made, or without it.", () -> {
            e.refuses(Stands::rich, "back(0) = -1", "back(2) = -1", "back(3) = -1", "back(-1) = -1", "back(4) = -1",
                    "back(MOST) = -1", "back(LEAST) = -1");
            e.refuses(Stands::riverless, "back(0) = -1", "back(1) = -1", "back(3) = -1", "back(4) = -1", "back(-1) = -1");
            e.refuses(RaftForest::new, "back(0) = -1", "back(1) = -1", "back(2) = -1", "back(3) = -1");
            e.due(Stands.rich(), "back(1) = 1", "count(7) = 1", "log(2, 3) = 2", "log(2, 4) = 2", "count(17) = 5",
                    "count(13) = 1", "count(6) = 0", "back(1) = 1", "undo() = 2");
        });
    }
}
