import java.util.ArrayList;
import java.util.Arrays;
import java.util.List;

/** All that an object can tell, to hold two objects against each other that should be alike. */
final class Everything {

    record Told(String name, Object[] arguments, long answer) {
        @Override
        public String toString() {
            return name + Arrays.toString(arguments) + " = " + answer;
        }
    }

    private final RaftForest forest;
    private final List<Told> told = new ArrayList<>();

    private Everything(RaftForest forest) {
        this.forest = forest;
    }

    /** All answers, and then, using the object up, what stands in no answer: what can be undone, IMAGES, the TAPE. */
    static List<Told> of(RaftForest forest) {
        Everything all = new Everything(forest);
        all.look();
        all.askAll("letAhead", 2, 6);
        for (int k = 0; k < 13; k++) {
            all.ask("undo");
            all.askAll("notch", 11, 5);
        }
        for (int log = 0; log < 12; log++) {
            all.ask("sight", log, log % 3, log % 2 - 1);
        }
        all.askAll("parted", 11, 5, 3);
        all.ask("days", 1);
        all.look();
        for (int k = 0; k < 4; k++) {
            all.ask("back", k);
            all.look();
            all.ask("undo");
        }
        all.ask("rule");
        all.ask("river");
        all.look();
        return all.told;
    }

    /** How two of these are unlike first; an empty text if they are alike. */
    static String unlike(List<Told> one, List<Told> other) {
        for (int i = 0; i < one.size(); i++) {
            if (one.get(i).answer != other.get(i).answer) {
                return one.get(i) + ", of its twin " + other.get(i).answer;
            }
        }
        return "";
    }

    private void ask(String name, Object... arguments) {
        told.add(new Told(name, arguments, Calls.answer(forest, name, arguments)));
    }

    /** A call with all arguments from 0 to the greatest ones. */
    private void askAll(String name, int... greatest) {
        Object[] at = new Object[greatest.length];
        Arrays.fill(at, 0);
        int place;
        do {
            ask(name, at.clone());
            place = at.length - 1;
            while (place >= 0 && (Integer) at[place] == greatest[place]) {
                at[place] = 0;
                place--;
            }
            if (place >= 0) {
                at[place] = (Integer) at[place] + 1;
            }
        } while (place >= 0);
    }

    private void look() {
        askAll("count", 19);
        askAll("bend", 8, 3);
        askAll("village", 5, 5);
        askAll("log", 11, 10);
        askAll("notch", 11, 5);
        askAll("votes", 8, 1);
        askAll("elected", 11);
        askAll("kin", 11, 11);
        askAll("was", 11, 30);
        askAll("parted", 11, 5, 3);
        askAll("owes", 5, 5);
        askAll("payments");
        askAll("repaid", 5, 5, 1);
        for (int what = 0; what < 6; what++) {
            ask("floats", 4, what);
            ask("drawn", 2, 4, 50, what);
        }
    }
}
