import java.io.IOException;
import java.nio.file.Path;
import java.util.function.Consumer;
import java.util.function.Supplier;

/** Tests of sentences of the document, each told by its words, which must stand there. */
final class Edges {
    private final Check check;
    private final Document document;
    private String part = "";
    private String sentence = "";
    private int answers;

    Edges(String name, Path file) throws IOException {
        check = new Check(name);
        document = new Document(file);
    }

    /** The part of the document that the next sentences stand in: I, II, III of its Terms, or a promise's number. */
    void in(Object name) {
        part = String.valueOf(name);
    }

    /** A sentence that names a boundary case, and a test of it. */
    void edge(String words, Runnable test) {
        sentence = words;
        check.holds(where("stands in the document"), document.has(part, words));
        answers = 0;
        test.run();
        check.holds(where("is tested"), answers > 0);
    }

    void same(String what, long got, long due) {
        answers++;
        check.same(where(what), got, due);
    }

    private String where(String what) {
        return part + ", \"" + sentence + "\": " + what;
    }

    /** Calls on an object, each with the answer that is due: "launch(0) = 1". */
    void due(RaftForest x, String... rows) {
        for (String text : rows) {
            Calls.Row row = Calls.Row.of(text);
            same(row.call(), Calls.answer(x, row.call()), row.due());
        }
    }

    /** Each call is refused with its answer, and nothing happens: a twin without it is alike. */
    void refuses(Supplier<RaftForest> stand, String... rows) {
        var untouched = Everything.of(stand.get());
        for (String text : rows) {
            RaftForest x = stand.get();
            due(x, text);
            alike(text, Everything.unlike(Everything.of(x), untouched));
        }
    }

    /** What is done to an object leaves it as something else done to its twin does. */
    void twins(String what, Supplier<RaftForest> stand, Consumer<RaftForest> done, Consumer<RaftForest> other) {
        RaftForest x = stand.get();
        RaftForest y = stand.get();
        done.accept(x);
        other.accept(y);
        alike(what, Everything.unlike(Everything.of(x), Everything.of(y)));
    }

    private void alike(String what, String unlike) {
        answers++;
        check.holds(where("behind " + what + " all is as of its twin, but " + unlike), unlike.isEmpty());
    }

    /** A text that is read: how many LOGS a RIVER has, or which number a RULE. */
    void reads(String kind, String text, int due) {
        RaftForest x = new RaftForest();
        Texts.tape(x, text);
        due(x, kind + "() = " + due, "count(18) = 0");
    }

    /** A text with a FAULT of a kind at a place. */
    void fails(String kind, String text, int place, int fault) {
        RaftForest x = new RaftForest();
        Texts.tape(x, text);
        same(kind + " of " + text, Calls.answer(x, kind + "()"), Texts.fault(place, fault));
        due(x, "count(0) = 0", "count(4) = 0", "count(18) = 0");
    }

    /** Whether a TEST holds of LOG 0, in the WATER of a RIVER of one VILLAGE: by it alone it jams. */
    void holds(String test) {
        RaftForest x = Texts.forest("river 2;village 0;wood 1;log 0 1 1 0");
        same("rule jam " + test, Texts.rule(x, "jam " + test), 0);
        Calls.run(x, "launch(0)", "force(0)");
        same(test, x.floats(1, 0), 1);
    }

    void end() {
        for (String words : document.untested()) {
            check.holds("there is no test of " + words, false);
        }
        check.holds("the parts of the document are found", document.parts() > 45);
        check.end();
    }
}
