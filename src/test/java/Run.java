import java.util.ArrayList;
import java.util.List;

/** A run of calls on a new hall, each with the answer or the refusal that is due. */
final class Run {
    private final Trace hall = new Trace();
    /** The calls that were answered: those that were refused altered nothing, or were told as wrong. */
    private final List<Step> answered = new ArrayList<>();

    /** Asks for the answer. */
    Run due(long want, String name, int... args) {
        Step step = new Step(name, args);
        Check.same(step.toString(), hall.see(step), Long.toString(want));
        answered.add(step);
        return this;
    }

    /** Asks for exactly that exception, and that the call alters nothing. */
    Run refused(Class<? extends RuntimeException> due, String name, int... args) {
        Step step = new Step(name, args);
        Check.same(step.toString(), hall.see(step), due.getName());
        altersNothing(step);
        return this;
    }

    /** Asks for the answer, and that the call alters nothing. */
    Run unaltered(long want, String name, int... args) {
        altersNothing(new Step(name, args));
        return due(want, name, args);
    }

    /** A call that has to be answered, whatever the answer is. */
    Run call(String name, int... args) {
        Step step = new Step(name, args);
        String answer = hall.see(step);
        Check.due(step + " is answered, not refused with " + answer, !answer.startsWith("java"), true);
        answered.add(step);
        return this;
    }

    Run type(String word) {
        for (int i = 0; i < word.length(); i++) {
            call("letter", word.charAt(i));
        }
        return this;
    }

    Run offices(int... above) {
        for (int each : above) {
            call("office", each);
        }
        return this;
    }

    Run act(int kind, int office, int measure, int harm) {
        return type(Halls.WORDS[kind]).call("act", office, measure, harm);
    }

    Run pass(int days) {
        for (int left = days; left > 0; left -= 100) {
            call("pass", Math.min(100, left));
        }
        return this;
    }

    Run pleas(int person, int acts) {
        for (int act = 0; act < acts; act++) {
            call("plea", person, act);
        }
        return this;
    }

    /** From OPEN, and not asked for, to FOUND. */
    Run find(int complaint) {
        return call("ask", complaint).call("answer", complaint).call("hear", complaint).call("find", complaint);
    }

    /** How many calls were made. */
    int size() {
        return hall.size();
    }

    private void altersNothing(Step step) {
        for (Probes.Probe probe : Probes.ALL) {
            Trace with = again();
            with.see(step);
            Trace without = again();
            int from = with.size();
            int fromOther = without.size();
            probe.look(with);
            probe.look(without);
            Check.same("after " + step, Trace.difference(with, from, without, fromOther), "");
        }
    }

    private Trace again() {
        Trace made = new Trace();
        for (Step step : answered) {
            made.see(step);
        }
        return made;
    }
}
