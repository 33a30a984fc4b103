/** Promises 6 to 8: force, bind, law, and whose a LOG is by each LAW. */
public final class LawTest {
    private static final Check CHECK = new Check("LawTest");

    public static void main(String[] args) {
        force();
        bind();
        law();
        owners();
        ownersByRule();
        mineWords();
        CHECK.end();
    }

    private static void force() {
        RaftForest x = new RaftForest();
        Texts.rule(x, "jam 1=1");
        CHECK.same("without a river", x.force(0), -2);
        CHECK.same("none without a river", x.force(-1), -2);
        Texts.river(x, "river 2");
        CHECK.same("force(0)", x.force(0), -1);
        CHECK.same("in force", x.count(5), 0);
        CHECK.same("force(1) is not told", x.force(1), -2);
        CHECK.same("force(-2)", x.force(-2), -2);
        CHECK.same("force(6)", x.force(6), -2);
        CHECK.same("stays", x.count(5), 0);
        CHECK.same("second rule", Texts.rule(x, "jam 1=2"), 1);
        CHECK.same("force(1)", x.force(1), 0);
        CHECK.same("force(1) again", x.force(1), 1);
        CHECK.same("force(-1)", x.force(-1), 1);
        CHECK.same("none in force", x.count(5), -1);
    }

    private static void bind() {
        RaftForest x = new RaftForest();
        Texts.rule(x, "take 1=1");
        CHECK.same("without a river", x.bind(0, 0), -2);
        Texts.river(x, "river 2;village 0;village 1");
        CHECK.same("bind(0, 0)", x.bind(0, 0), -1);
        CHECK.same("rule of 0", x.village(0, 1), 0);
        CHECK.same("rule of 1", x.village(1, 1), -1);
        CHECK.same("bind(2, 0)", x.bind(2, 0), -2);
        CHECK.same("bind(-1, 0)", x.bind(-1, 0), -2);
        CHECK.same("bind(0, 1)", x.bind(0, 1), -2);
        CHECK.same("bind(0, -2)", x.bind(0, -2), -2);
        CHECK.same("stays", x.village(0, 1), 0);
        CHECK.same("bind(0, -1)", x.bind(0, -1), 0);
        CHECK.same("bind(0, 0)", x.bind(0, 0), -1);
    }

    private static void law() {
        RaftForest x = new RaftForest();
        CHECK.same("without a river", x.law(0, 0), -2);
        Texts.river(x, "river 2");
        CHECK.same("at first", x.count(6), 0);
        CHECK.same("law(2) asks no rule", x.law(2, 99), 0);
        CHECK.same("law(1)", x.law(1, -7), 2);
        CHECK.same("law(3) without a rule", x.law(3, 0), -2);
        CHECK.same("law(3, -1)", x.law(3, -1), -2);
        CHECK.same("law(4)", x.law(4, 0), -2);
        CHECK.same("law(-1)", x.law(-1, 0), -2);
        CHECK.same("stays", x.count(6), 1);
        Texts.rule(x, "mine 1");
        CHECK.same("law(3, 0)", x.law(3, 0), 1);
        CHECK.same("law(3, 1) is not told", x.law(3, 1), -2);
        CHECK.same("law is", x.count(6), 3);
        CHECK.same("law(0)", x.law(0, 0), 3);
    }

    /** A LOG with NOTCHES of villages of one BEND. */
    private static RaftForest notched(int... notches) {
        RaftForest x = Texts.forest("river 2;village 0;village 0;village 0;village 0;wood 1;log 0 1 1 " + notches[0]);
        x.launch(0);
        for (int i = 1; i < notches.length; i++) {
            CHECK.same("cut", x.cut(0, notches[i]), i + 1);
        }
        return x;
    }

    private static void owners() {
        RaftForest x = notched(3, 1, 2, 1, 2, 0);
        CHECK.same("law 0: the first", x.log(0, 5), 3);
        x.law(1, 0);
        CHECK.same("law 1: the last", x.log(0, 5), 0);
        x.law(2, 0);
        CHECK.same("law 2: most, of several the least", x.log(0, 5), 1);
        CHECK.same("logs of 1", x.village(1, 4), 1);
        CHECK.same("logs of 3", x.village(3, 4), 0);
        x.cutOver(0, 0, 2);
        CHECK.same("law 2: most", x.log(0, 5), 2);
        RaftForest none = notched(2);
        Texts.rule(none, "jam day<3;mine 1");
        none.force(0);
        none.days(3);
        for (int law = 0; law <= 3; law++) {
            none.law(law, 0);
            CHECK.same("law " + law + ": drift", none.log(0, 5), -1);
        }
    }

    private static void ownersByRule() {
        byRule("mine village", 3, 3, 1, 2);
        byRule("mine 5-village", 1, 3, 1, 2);
        byRule("mine 0-village", 1, 3, 1, 2);
        byRule("mine 7", 1, 3, 1, 2);
        // only who has a notch in it can claim it
        byRule("mine 9 if village=0;mine 1", 1, 3, 1, 2);
        // the first CLAUSE that holds, not the greatest
        byRule("mine 1 if village=3;mine 5 if village=3;mine 3", 1, 3, 1, 2);
        byRule("mine 1;mine 9 if village=3", 1, 3, 1, 2);
        // who has none does not claim it
        byRule("mine 1 if village=2", 2, 3, 1, 2);
        byRule("mine 0-100 if village=2", 2, 3, 1, 2);
        byRule("mine 1 if village=0", -1, 3, 1, 2);
        byRule("jam 1=1;take 1=1;elect 5", -1, 3, 1, 2);
        // far below 0
        byRule("mine 0-99999*99999*9999-village", 1, 3, 1, 2);
    }

    private static void byRule(String rule, int owner, int... notches) {
        RaftForest x = notched(notches);
        Texts.rule(x, rule);
        x.law(3, 0);
        CHECK.same("law 3: " + rule, x.log(0, 5), owner);
        Texts.rule(x, "mine village");
        x.law(3, 1);
        CHECK.same("law 3 by another rule", x.log(0, 5), 3);
        x.law(1, 0);
        CHECK.same("law 1 again", x.log(0, 5), notches[notches.length - 1]);
    }

    /** The WORDS of a mine CLAUSE: owner is 9, room is 0, and a LOG at the MOUTH has as many BENDS as there are. */
    private static void mineWords() {
        mineWord("owner", 9);
        mineWord("room", 0);
        mineWord("bend", 0);
        mineWord("notches", 2);
        mineWord("felled", 1);
        mineWord("last", 0);
        mineWord("water", 50);
        RaftForest x = notched(1, 0);
        Texts.rule(x, "mine 5 if bend=2 and village=0;mine village");
        x.law(3, 0);
        CHECK.same("in the water", x.log(0, 5), 1);
        x.days(1);
        CHECK.same("still", x.log(0, 5), 1);
        x.days(1);
        CHECK.same("sold", x.log(0, 3), 40);
        CHECK.same("its owner at the mouth", x.log(0, 5), 0);
        CHECK.same("who was paid", x.village(0, 2), 1);
        CHECK.same("who was not", x.village(1, 2), 0);
    }

    private static void mineWord(String word, int value) {
        RaftForest x = notched(1, 0);
        Texts.rule(x, "mine 1 if " + word + "=" + value);
        x.law(3, 0);
        CHECK.same("mine: " + word + " is " + value, x.log(0, 5), 0);
        Texts.rule(x, "mine 1 if not " + word + "=" + value);
        x.law(3, 1);
        CHECK.same("mine: " + word + " is not another one", x.log(0, 5), -1);
    }
}
