import java.util.Random;

/** Promises 27, 38 to 40: winter, owes, payments, repaid. */
public final class DebtTest {
    private static final Check CHECK = new Check("DebtTest");
    private static final int FAR = Integer.MAX_VALUE;

    public static void main(String[] args) {
        owes();
        winter();
        payments();
        repaid();
        CHECK.end();
    }

    /** Villages at one BEND; each {one, other, coins}: one burns a LOG of the other one's of so many coins. */
    private static RaftForest owing(int villages, int[]... debts) {
        StringBuilder text = new StringBuilder("river 2" + ";village 0".repeat(villages) + ";wood 1");
        for (int[] debt : debts) {
            text.append(";log 0 " + debt[2] + " 1 " + debt[1]);
        }
        RaftForest x = Texts.forest(text.toString());
        for (int log = 0; log < debts.length; log++) {
            x.launch(log);
            x.land(log, debts[log][0]);
            x.burn(log);
        }
        return x;
    }

    private static void owes() {
        RaftForest x = owing(3, new int[] {0, 1, 5}, new int[] {0, 1, 6}, new int[] {1, 0, 20}, new int[] {2, 1, 9});
        CHECK.same("0 to 1", x.owes(0, 1), 11);
        CHECK.same("1 to 0", x.owes(1, 0), 20);
        CHECK.same("2 to 1", x.owes(2, 1), 9);
        CHECK.same("1 to 2", x.owes(1, 2), 0);
        CHECK.same("net of 0", x.village(0, 5), 9);
        CHECK.same("net of 1", x.village(1, 5), 0);
        CHECK.same("net of 2", x.village(2, 5), -9);
        for (int[] no : new int[][] {{0, 0}, {2, 2}, {0, 3}, {3, 0}, {-1, 0}, {0, -1}, {FAR, 0}}) {
            CHECK.same("owes(" + no[0] + ", " + no[1] + ")", x.owes(no[0], no[1]), -1);
        }
    }

    private static void winter() {
        CHECK.same("without a river", new RaftForest().winter(0), -2);
        RaftForest x = owing(3, new int[] {0, 1, 5}, new int[] {0, 1, 6}, new int[] {1, 0, 20}, new int[] {2, 1, 9});
        CHECK.same("winter(-1)", x.winter(-1), -2);
        CHECK.same("winter(100000)", x.winter(100000), -2);
        CHECK.same("winter(0)", x.winter(0), 0);
        CHECK.same("winter(8): none is so small", x.winter(8), 0);
        CHECK.same("winter(11)", x.winter(11), 20);
        CHECK.same("gone", x.owes(0, 1) + x.owes(2, 1), 0);
        CHECK.same("stays", x.owes(1, 0), 20);
        CHECK.same("winter(99999)", x.winter(99999), 20);
        CHECK.same("nothing left", x.winter(99999), 0);
    }

    private static void payments() {
        CHECK.same("without a river", new RaftForest().payments(), -1);
        CHECK.same("without villages", Texts.forest("river 2").payments(), 0);
        CHECK.same("no debts", owing(6).payments(), 0);
        CHECK.same("one", owing(2, new int[] {0, 1, 5}).payments(), 1);
        CHECK.same("even", owing(2, new int[] {0, 1, 5}, new int[] {1, 0, 5}).payments(), 0);
        CHECK.same("round", owing(3, new int[] {0, 1, 5}, new int[] {1, 2, 5}, new int[] {2, 0, 5}).payments(), 0);
        CHECK.same("through", owing(3, new int[] {0, 1, 5}, new int[] {1, 2, 5}).payments(), 1);
        CHECK.same("two to one", owing(3, new int[] {0, 2, 5}, new int[] {1, 2, 6}).payments(), 2);
        // NETS 5, -5, 7, -7: two pairs
        CHECK.same("pairs", owing(4, new int[] {0, 1, 5}, new int[] {2, 3, 7}).payments(), 2);
        // NETS -3, -4, 7 and -5, 2, 3: each needs two; greedy by the greatest would need five
        CHECK.same("threes", owing(6, new int[] {0, 2, 3}, new int[] {1, 2, 4}, new int[] {3, 4, 2},
                new int[] {3, 5, 3}).payments(), 4);
        // all hang together: five
        CHECK.same("six", owing(6, new int[] {0, 5, 1}, new int[] {1, 5, 2}, new int[] {2, 5, 4}, new int[] {3, 5, 8},
                new int[] {4, 5, 16}).payments(), 5);
        // NETS -1, -2, 3, -4, 9, -5: 3 and 3, though -5, 1 .. would be paid one by one otherwise
        CHECK.same("hidden", owing(6, new int[] {0, 2, 1}, new int[] {1, 4, 2}, new int[] {3, 2, 2},
                new int[] {3, 4, 2}, new int[] {5, 4, 5}).payments(), 4);
    }

    private static void repaid() {
        // village 0 owes 1 as much as log 0 is long, and has logs of 7, 5, 5, 4, 1
        RaftForest x = repaying(9);
        CHECK.same("4 and 5: the sum", x.repaid(0, 1, 0), 9);
        CHECK.same("4 and 5: of those alike the least", x.repaid(0, 1, 1), 4 + 16);
        x = repaying(10);
        CHECK.same("5 and 5 are fewer than 5, 4, 1", x.repaid(0, 1, 0), 10);
        CHECK.same("the set", x.repaid(0, 1, 1), 4 + 8);
        x = repaying(22);
        CHECK.same("all", x.repaid(0, 1, 0), 22);
        CHECK.same("the set", x.repaid(0, 1, 1), 62);
        x = repaying(23);
        CHECK.same("there is none", x.repaid(0, 1, 0), -2);
        CHECK.same("there is none", x.repaid(0, 1, 1), -2);
        x = repaying(2);
        CHECK.same("more than is owed", x.repaid(0, 1, 0), 4);
        CHECK.same("the set", x.repaid(0, 1, 1), 16);
        CHECK.same("nothing owed: the sum", x.repaid(1, 0, 0), 0);
        CHECK.same("nothing owed: the empty set", x.repaid(1, 0, 1), 0);
        x = repaying(7);
        CHECK.same("one", x.repaid(0, 1, 1), 2);
        x.launch(1);
        CHECK.same("not of those in the water", x.repaid(0, 1, 0), 9);
        x.land(1, 1);
        CHECK.same("nor at another village", x.repaid(0, 1, 0), 9);
        x.launch(2);
        x.cutOver(2, 0, 1);
        x.land(2, 0);
        CHECK.same("nor of another owner", x.repaid(0, 1, 1), 8 + 16);
        RaftForest y = Texts.forest("river 2;village 0;village 0;wood 1;log 0 6 1 0;log 0 4 1 1");
        y.launch(1);
        y.land(1, 0);
        y.burn(1);
        CHECK.same("of the first log, too", y.repaid(0, 1, 0), 6);
        CHECK.same("the set", y.repaid(0, 1, 1), 1);
        for (int[] no : new int[][] {{0, 0, 0}, {0, 2, 0}, {2, 0, 0}, {-1, 0, 0}, {0, -1, 0}, {0, 1, 2}, {0, 1, -1},
            {FAR, 0, 0}}) {
            CHECK.same("repaid(" + no[0] + ", " + no[1] + ", " + no[2] + ")", x.repaid(no[0], no[1], no[2]), -1);
        }
        byChance();
    }

    private static RaftForest repaying(int debt) {
        RaftForest x = Texts.forest("river 2;village 0;village 0;wood 1;log 0 " + debt
                + " 1 1;log 0 7 1 0;log 0 5 1 0;log 0 5 1 0;log 0 4 1 0;log 0 1 1 0");
        x.launch(0);
        x.land(0, 0);
        CHECK.same("burnt", x.burn(0), debt);
        return x;
    }

    /** Eleven LOGS with a toll, so that some are worth 0, held against all sets. */
    private static void byChance() {
        Random random = new Random(7);
        for (int time = 0; time < 40; time++) {
            StringBuilder text = new StringBuilder("river 3;village 1;village 1;wood 1;toll 2;log 0 "
                    + (5 + random.nextInt(60)) + " 1 1");
            int[] worth = new int[12];
            for (int log = 1; log < 12; log++) {
                int length = 1 + random.nextInt(12);
                worth[log] = Math.max(0, length - 4);
                text.append(";log 0 " + length + " 1 0");
            }
            RaftForest x = Texts.forest(text.toString());
            x.launch(0);
            x.land(0, 0);
            int debt = x.burn(0);
            int best = -1;
            int bestSum = 0;
            for (int set = 0; set < 4096; set += 2) {
                int sum = 0;
                for (int log = 1; log < 12; log++) {
                    sum += (set >> log & 1) * worth[log];
                }
                if (sum >= debt && (best < 0 || sum < bestSum
                        || sum == bestSum && Integer.bitCount(set) < Integer.bitCount(best))) {
                    best = set;
                    bestSum = sum;
                }
            }
            CHECK.same("the sum for " + debt, x.repaid(0, 1, 0), best < 0 ? -2 : bestSum);
            CHECK.same("the set for " + debt, x.repaid(0, 1, 1), best < 0 ? -2 : best);
        }
    }
}
