import java.util.Arrays;

/** A call by its name, so that runs of calls can be kept, made again and told. A boolean is told as 1 or 0. */
record Step(String name, int... args) {
    /** Makes the call. */
    long on(Grievancehall hall) {
        int[] a = args;
        switch (name) {
            case "letter": return hall.letter((char) a[0]);
            case "office": return hall.office(a[0]);
            case "delegate": return hall.delegate(a[0], a[1]);
            case "whose": return hall.whose(a[0], a[1]);
            case "limit": return hall.limit(a[0], a[1]);
            case "act": return hall.act(a[0], a[1], a[2]);
            case "court": return hall.court(a[0], a[1] == 1) ? 1 : 0;
            case "waive": return hall.waive(a[0], a[1] == 1) ? 1 : 0;
            case "plea": hall.plea(a[0], a[1]); return 0;
            case "bar": return hall.bar(a[0], a[1]);
            case "complain": return hall.complain(a[0], a[1]);
            case "ask": return hall.ask(a[0]);
            case "answer": return hall.answer(a[0]);
            case "hear": hall.hear(a[0]); return 0;
            case "find": return hall.find(a[0]);
            case "remedy": return hall.remedy(a[0], a[1]);
            case "pass": return hall.pass(a[0]);
            case "about": return hall.about(a[0], a[1]);
            case "reminder": return hall.reminder(a[0]);
            case "fault": return hall.fault(a[0]);
            case "likes": return hall.likes(a[0]);
            case "remedied": return hall.remedied(a[0]);
            case "gains": return hall.gains(a[0], a[1]);
            default: throw new AssertionError(name);
        }
    }

    /** Makes the call; its answer, or the name of what it throws. */
    String answerOf(Grievancehall hall) {
        try {
            return Long.toString(on(hall));
        } catch (RuntimeException e) {
            return e.getClass().getName();
        }
    }

    @Override
    public String toString() {
        return name + Arrays.toString(args);
    }
}
