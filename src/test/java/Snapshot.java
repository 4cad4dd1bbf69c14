import java.util.ArrayList;
import java.util.List;

/** What a desk answers about what was read (some seventy calls), to see whether another call changes it. */
final class Snapshot {
    private static final int[] PLACES = {-1, 0, 1, 9, 10, 80, 81, 90, 91, 1999};

    private final List<String> questions = new ArrayList<>();
    private final List<Long> answers = new ArrayList<>();

    Snapshot(WireDesk x) {
        add("place", x.place());
        for (int i : PLACES) {
            add("byteOf " + i, x.byteOf(i));
        }
        for (int what = 0; what < 4; what++) {
            add("head " + what, x.head(what));
        }
        for (int t = 0; t < 2; t++) {
            for (int what = 0; what < 6; what++) {
                add("look " + t + " " + what, x.look(t, what));
            }
            for (int what = 0; what < 5; what++) {
                add("input " + t + " 0 " + what, x.input(t, 0, what));
            }
            for (int what = 0; what < 3; what++) {
                add("output " + t + " 0 " + what, x.output(t, 0, what));
            }
        }
        for (int t = -3; t < 2; t++) {
            for (int k = 0; k < 4; k++) {
                add("name " + t + " " + k, x.name(t, k));
            }
        }
        add("isDoubtful", x.isDoubtful() ? 1 : 0);
    }

    private void add(String question, long answer) {
        questions.add(question);
        answers.add(answer);
    }

    /** That the desk still answers all as it did. */
    void stands(String after, WireDesk x) {
        Snapshot now = new Snapshot(x);
        for (int q = 0; q < questions.size(); q++) {
            Check.due(questions.get(q) + " after " + after, now.answers.get(q), answers.get(q));
        }
    }

    /** That the desk answers as one that has read nothing, but for the place. */
    static void nothingRead(String after, WireDesk x) {
        Snapshot now = new Snapshot(x);
        for (int q = 1; q < now.questions.size(); q++) {
            String question = now.questions.get(q);
            boolean none0 = question.startsWith("name") || question.equals("isDoubtful");
            Check.due(question + " after " + after, now.answers.get(q), none0 ? 0 : -1);
        }
    }
}
