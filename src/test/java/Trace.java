import java.util.ArrayList;
import java.util.List;

/** The calls that were made on one hall, with what each answered or threw. */
final class Trace {
    static final int MOST_CALLS = 512;

    private final Grievancehall hall = new Grievancehall();
    private final List<Step> steps = new ArrayList<>();
    private final List<String> answers = new ArrayList<>();
    private int today = 0;
    private int acts = 0;
    private int complaints = 0;

    String see(Step step) {
        if (steps.size() >= MOST_CALLS) {
            throw new AssertionError("the document promises nothing of a call " + (MOST_CALLS + 1) + ": " + step);
        }
        String answer = step.answerOf(hall);
        steps.add(step);
        answers.add(answer);
        if (!answer.startsWith("java")) {
            count(step.name(), Integer.parseInt(answer));
        }
        return answer;
    }

    String see(String name, int... args) {
        return see(new Step(name, args));
    }

    private void count(String name, int answer) {
        switch (name) {
            case "pass": today = answer; break;
            case "act": acts = Math.max(acts, answer + 1); break;
            case "complain": complaints = Math.max(complaints, answer + 1); break;
            default: break;
        }
    }

    int today() {
        return today;
    }

    int acts() {
        return acts;
    }

    int complaints() {
        return complaints;
    }

    /** Where the last answers of both, one for each call from a place on, are not the same; empty if they are. */
    static String difference(Trace one, int from, Trace other, int fromOther) {
        for (int i = 0; from + i < one.answers.size() && fromOther + i < other.answers.size(); i++) {
            String got = one.answers.get(from + i);
            String due = other.answers.get(fromOther + i);
            if (!got.equals(due)) {
                return one.steps.get(from + i) + " answers " + got + ", and " + due + " without it";
            }
        }
        boolean sameLength = one.answers.size() - from == other.answers.size() - fromOther;
        return sameLength ? "" : "one is longer";
    }

    int size() {
        return steps.size();
    }
}
