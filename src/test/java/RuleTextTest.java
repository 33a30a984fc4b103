import java.util.function.Consumer;

/** Promise 5: rule, the FAULTS of its text, and what its SUMS and TESTS tell. */
public final class RuleTextTest {
    private static final Check CHECK = new Check("RuleTextTest");

    public static void main(String[] args) {
        good();
        faults();
        tooDeep();
        tooManyItems();
        tooManyClauses();
        sixRules();
        tests();
        sums();
        words();
        CHECK.end();
    }

    private static void good() {
        tells("jam 1=1");
        tells("take 1<2 or 2<=3 and 3>4;add not 1>=2");
        tells("elect 1;elect 1 if 1=1;mine log+1*2/3%4-5 if [1=1]");
        tells("  jam  1  <=  1  ; add[1=1]");
        tells("jam1=1and2=2or3=3");
        tells("mine1if1=1");
        tells("jam 00001=99999");
        tells("jam log+wood+length+rings+bend+village+owner+felled+last+notches+room+water+day=0");
        tells("jam not not [not 1=1 or [[2=2]]]");
    }

    private static void faults() {
        fails("", 0, 0);
        fails(" ", 1, 0);
        fails("jam", 3, 0);
        fails("jams 1=1", 0, 0);
        fails("river 2", 0, 0);
        fails("jam 1", 5, 0);
        fails("jam 1=", 6, 0);
        fails("jam 1=1=1", 7, 0);
        fails("jam 1=1;", 8, 0);
        fails("jam 1=1 2", 8, 0);
        fails("jam 1=1 if 1=1", 8, 0);
        fails("jam 1==1", 6, 0);
        fails("jam 1=<1", 6, 0);
        fails("jam 1< =1", 7, 0);
        fails("jam 1<>1", 6, 0);
        fails("jam 1<==1", 7, 0);
        fails("jam 1>==1", 7, 0);
        fails("jam log{=1", 7, 0);
        fails("jam log\u00e9=1", 7, 0);
        fails("jam log`=1", 7, 0);
        fails("jam 1/:=1", 6, 0);
        fails("jam 1+=1", 6, 0);
        fails("jam 1++1=1", 6, 0);
        fails("jam -1=1", 4, 0);
        fails("jam 1 1=1", 6, 0);
        fails("jam 1=1 and", 11, 0);
        fails("jam and 1=1", 4, 0);
        fails("jam 1=1 and or 1=1", 12, 0);
        fails("jam 1=not 1", 6, 0);
        fails("jam not", 7, 0);
        fails("jam notlog=1", 4, 0);
        fails("jam logs=1", 4, 0);
        fails("jam Log=1", 4, 0);
        fails("jam [1=1", 8, 0);
        fails("jam [1]=1", 6, 0);
        fails("jam [1+1]", 8, 0);
        fails("jam []", 5, 0);
        fails("jam 1=1]", 7, 0);
        fails("jam [1=1];]", 10, 0);
        fails("jam [1=1;add 1=1]", 8, 0);
        fails("jam 1=(1)", 6, 0);
        fails("jam 1=1,", 7, 0);
        fails("elect", 5, 0);
        fails("elect if 1=1", 6, 0);
        fails("elect 1<2", 7, 0);
        fails("elect 1 if", 10, 0);
        fails("elect 1 if 1", 12, 0);
        fails("elect 1 if 1=1 if 1=1", 15, 0);
        fails("elect [1]", 6, 0);
        fails("elect not 1", 6, 0);
        fails("mine 1 and 1=1", 7, 0);
        fails("mine jam", 5, 0);
        fails("jam 1=\u00e9", 6, 0);
        // a NUMBER of more digits
        fails("jam 100000=1", 4, 1);
        fails("jam 1=000001", 6, 1);
        fails("elect 1+1234567890123", 8, 1);
        // in a place where no NUMBER can stand it is a byte that can't
        fails("jam 1=1 100000", 8, 0);
        fails("100000", 0, 0);
    }

    private static void tooDeep() {
        tells("jam " + "[".repeat(10) + "1=1" + "]".repeat(10));
        fails("jam " + "[".repeat(11) + "1=1" + "]".repeat(11), 14, 2);
        tells("jam " + "not ".repeat(10) + "1=1");
        fails("jam " + "not ".repeat(11) + "1=1", 44, 2);
        tells("jam " + "[not ".repeat(5) + "1=1" + "]".repeat(5));
        fails("jam " + "[not ".repeat(5) + "[1=1]", 29, 2);
        fails("jam " + "[not ".repeat(5) + "not 1=1", 29, 2);
        // what lies beside is no deeper
        tells("jam " + "[".repeat(10) + "1=1" + "]".repeat(10) + " and " + "not ".repeat(10) + "1=1 or [[1=1]]");
        fails("elect 1 if " + "[".repeat(12), 21, 2);
    }

    private static void tooManyItems() {
        // 20 FACTS are 40 VALUES and 20 SIGNS
        String twenty = "jam 1=1" + " or 1=1".repeat(19);
        tells(twenty);
        fails(twenty + " or 1=1", twenty.length() + 4, 3);
        fails(twenty + ";elect 1", twenty.length() + 7, 3);
        // the FACT itself is one too many: at its SIGN
        String fifty9 = "elect 1" + "+1".repeat(58);
        tells(fifty9 + "+1");
        fails(fifty9 + "+1+1", fifty9.length() + 3, 3);
        fails(fifty9 + " if 1 >= 1", fifty9.length() + 6, 3);
        fails(fifty9 + " if 1+log", fifty9.length() + 6, 3);
        // of one place the least
        fails(fifty9 + "+1+what", fifty9.length() + 3, 0);
        fails(fifty9 + "+1+100000", fifty9.length() + 3, 1);
        fails(fifty9 + "+1+", fifty9.length() + 3, 0);
        fails(fifty9 + " if 1", fifty9.length() + 5, 0);
    }

    private static void tooManyClauses() {
        String twelve = "jam 1=1" + ";mine 1".repeat(11);
        tells(twelve);
        fails(twelve + ";add 1=1", twelve.length() + 1, 4);
        fails(twelve + "; what", twelve.length() + 2, 0);
        fails(twelve + ";", twelve.length() + 1, 0);
    }

    private static void sixRules() {
        RaftForest x = new RaftForest();
        for (int i = 0; i < 6; i++) {
            CHECK.same("a fault tells no rule", Texts.rule(x, "jam"), Texts.fault(3, 0));
            CHECK.same("rule " + i, Texts.rule(x, "mine 1"), i);
            CHECK.same("rules", x.count(4), i + 1);
        }
        // nothing of a text with a FAULT is left in the RULE that comes in its place
        RaftForest y = Texts.forest("river 2;village 0;wood 1;log 0 1 1 0");
        CHECK.same("a fault", Texts.rule(y, "jam 1=1;take 1=1;what"), Texts.fault(17, 0));
        CHECK.same("a rule", Texts.rule(y, "jam 1=2"), 0);
        y.force(0);
        y.bind(0, 0);
        y.launch(0);
        CHECK.same("it jams nothing", y.floats(1, 0), 0);
        CHECK.same("a seventh", Texts.rule(x, "mine 1"), -1);
        CHECK.same("the tape stays", x.count(18), 6);
        CHECK.same("a seventh with a fault", Texts.rule(x, "what"), -1);
        CHECK.same("rules", x.count(4), 6);
        CHECK.same("rules stay with a river", Texts.river(x, "river 2"), 0);
        CHECK.same("rules", x.count(4), 6);
    }

    private static void tests() {
        holds("1=1", true);
        holds("1<1", false);
        holds("1<=1", true);
        holds("1>=1", true);
        holds("1>1", false);
        holds("2>1", true);
        holds("2<=1", false);
        holds("1>=2", false);
        holds("not 1=1", false);
        holds("not not 1=1", true);
        // and binds closer than or, not closest
        holds("1=1 or 1=1 and 1=2", true);
        holds("[1=1 or 1=1] and 1=2", false);
        holds("1=2 and 1=2 or 1=1", true);
        holds("1=2 and [1=2 or 1=1]", false);
        holds("not 1=2 and 1=2", false);
        holds("not [1=2 and 1=2]", true);
        holds("not 1=1 or 1=1", true);
        holds("1=1 and 1=1 or 1=2 and 1=1", true);
        holds("1=2 or 1=2 or 1=1", true);
        holds("1=1 and 1=1 and 1=2", false);
        // some TEST of the kind, whatever the others tell
        holds("1=2;jam 1=1", true);
        holds("1=1;jam 1=2", true);
        holds("1=2;take 1=1;elect 1", false);
    }

    private static void sums() {
        holds("1+2*3=7", true);
        holds("2*3+1=7", true);
        holds("10-3-2=5", true);
        holds("10-3+2=9", true);
        holds("100/10/5=2", true);
        holds("100/10*5=50", true);
        holds("17%10%4=3", true);
        holds("7/2=3", true);
        holds("7%4=3", true);
        holds("7/0=0", true);
        holds("7%0=0", true);
        holds("3-5<0", true);
        holds("1-2*3+4=0-1", true);
        holds("00010=10", true);
        // below 0 only by going round: the highest bit is 2^63
        String two63 = "65536*65536*65536*32768";
        holds(two63 + "<0", true);
        holds(two63 + "*2=0", true);
        holds(two63 + "-1>0", true);
        // -2^63 + ... by 10: towards 0, and its rest is not above 0
        holds(two63 + "%10=0-8", true);
        holds(two63 + "/99999%10=0-" + (-(Long.MIN_VALUE / 99999 % 10)), true);
        holds("99999*99999*99999*99999*99999%1000+1000=" + (99999L * 99999 * 99999 * 99999 * 99999 % 1000 + 1000),
                true);
    }

    /** The WORDS in a jam TEST; the other kinds stand with their promises. */
    private static void words() {
        Consumer<RaftForest> first = x -> {
            Texts.river(x, "river 3;village 1;village 0;wood 5;wood 7;log 0 2 3 0;log 1 20 30 1;width 1 4");
            x.launch(1);
            x.cut(1, 1);
            x.flood(7);
        };
        word(first, "log", 1);
        word(first, "wood", 1);
        word(first, "length", 20);
        word(first, "rings", 30);
        word(first, "bend", 0);
        word(first, "village", 9);
        word(first, "owner", 1);
        word(first, "felled", 1);
        word(first, "last", 1);
        word(first, "notches", 2);
        word(first, "room", 4);
        word(first, "water", 57);
        word(first, "day", 0);
        word(first.andThen(x -> x.dam(1)), "room", 3);
        word(first.andThen(x -> x.launch(0)).andThen(x -> x.ahead(1, 0)), "room", 3);
        // the other one is asked first, and has floated on
        word(first.andThen(x -> x.launch(0)), "room", 4);
        Consumer<RaftForest> second = first.andThen(x -> {
            x.days(1);
            x.cut(1, 0);
        });
        word(second, "bend", 1);
        word(second, "day", 1);
        word(second, "last", 0);
        word(second, "felled", 1);
        word(second, "room", 9);
        word(second.andThen(x -> x.cutOver(1, 0, 0)), "felled", 0);
        word(second.andThen(x -> x.cutOver(1, 0, 0)), "owner", 0);
        word(second.andThen(x -> x.saw(1, 6)), "length", 14);
        word(second.andThen(x -> x.days(1)), "room", 99);
        word(second.andThen(x -> x.days(1)), "bend", 2);
        Consumer<RaftForest> mud = x -> {
            Texts.river(x, "river 2;village 0;wood 5;log 0 2 3 0");
            Texts.rule(x, "jam day<3");
            x.force(0);
            x.launch(0);
            x.days(3);
        };
        word(x -> {
            Texts.river(x, "river 2;village 0;village 0;wood 5;log 0 2 3 1");
            x.launch(0);
        }, "felled", 1);
        word(mud, "notches", 0);
        word(mud, "felled", 9);
        word(mud, "last", 9);
        word(mud, "owner", 9);
    }

    /** The last LOG jams by WORD = value, and by no value beside it. */
    private static void word(Consumer<RaftForest> stand, String word, int value) {
        for (int near = Math.max(0, value - 1); near <= value + 1; near++) {
            RaftForest x = new RaftForest();
            stand.accept(x);
            int last = x.count(3) - 1;
            x.force(Texts.rule(x, "jam " + word + "=" + near + " and log=" + last));
            x.days(1);
            CHECK.same(word + "=" + near, x.log(last, 8) > 0 ? 1 : 0, near == value ? 1 : 0);
        }
    }

    /** Whether a TEST holds: by it a LOG jams that would not otherwise. */
    private static void holds(String test, boolean due) {
        RaftForest x = Texts.forest("river 2;village 0;wood 1;log 0 1 1 0");
        CHECK.same("rule jam " + test, Texts.rule(x, "jam " + test), 0);
        x.force(0);
        x.launch(0);
        CHECK.same(test, x.floats(1, 0), due ? 1 : 0);
    }

    private static void tells(String text) {
        RaftForest x = new RaftForest();
        CHECK.same("rule of: " + text, Texts.rule(x, text), 0);
        CHECK.same("rules behind: " + text, x.count(4), 1);
        CHECK.same("tape behind: " + text, x.count(18), 0);
    }

    private static void fails(String text, int place, int kind) {
        RaftForest x = new RaftForest();
        CHECK.same("rule of: " + text, Texts.rule(x, text), Texts.fault(place, kind));
        CHECK.same("rules behind: " + text, x.count(4), 0);
        CHECK.same("tape behind: " + text, x.count(18), 0);
    }
}
