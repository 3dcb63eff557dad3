/** What the tests of boundaries share: names, halls to begin with, and values outside of a range. */
abstract class Boundaries {
    static final int NONE = Grievancehall.NONE;
    static final int OPEN = Grievancehall.OPEN, FOUND = Grievancehall.FOUND, LAPSED = Grievancehall.LAPSED;
    static final int DELAY = Halls.DELAY, PROMISE = Halls.PROMISE, RULE = Halls.RULE, ANSWER = Halls.ANSWER;
    static final int LEAST = Integer.MIN_VALUE, MOST = Integer.MAX_VALUE;

    static final Class<IndexOutOfBoundsException> INDEX = IndexOutOfBoundsException.class;
    static final Class<IllegalArgumentException> ARGUMENT = IllegalArgumentException.class;
    static final Class<IllegalStateException> STATE = IllegalStateException.class;

    // What about tells of.
    static final int STATE_OF = 0, ACT_OF = 1, DAYS_LEFT = 2, PEOPLE = 3, OWED = 4, FINDING = 5;

    /** Offices below none. */
    static Run offices(int count) {
        Run run = new Run();
        for (int i = 0; i < count; i++) {
            run.call("office", NONE);
        }
        return run;
    }

    /** On day 0 act 0 of office 0: a rule of that measure, with the harm 100. */
    static Run oneAct(int measure) {
        return offices(1).act(RULE, 0, measure, 100);
    }

    /** On day 10 complaint 0 of person 0 about that act; no other person made a plea. */
    static Run oneComplaint(int measure) {
        return oneAct(measure).call("plea", 0, 0).call("pass", 10).call("complain", 0, 0);
    }

    /** As many acts of office 0 on day 0, with a plea of person 0 of each. */
    static Run manyActs(int count) {
        Run run = offices(1);
        for (int i = 0; i < count; i++) {
            run.act(RULE, 0, 0, 0);
        }
        return run.pleas(0, count);
    }

    /** On day 10 complaints 0 to 15 about acts 0 to 15; acts 16 and 17 have pleas too. */
    static Run sixteenComplaints() {
        Run run = manyActs(18).call("pass", 10);
        for (int i = 0; i < 16; i++) {
            run.call("complain", 0, i);
        }
        return run;
    }

    // How the complaints of full() are.
    static final int C_LAPSED = 0, C_FOUND = 1, C_NOT_ASKED = 2, C_OWED = 3, C_ANSWERED = 4, C_HEARD = 5;

    /** On day 77 4 offices, 6 acts and 6 complaints, each of another state, and the letters "ru". */
    static Run full() {
        Run run = new Run().offices(NONE, 0, 1, NONE).call("limit", ANSWER, 40).call("delegate", 3, 2);
        run.act(RULE, 2, 90, 150).act(RULE, 3, 10, 99).act(RULE, 2, 12, 50);
        run.act(DELAY, 1, 20, 10).act(ANSWER, 0, 41, 1000).act(PROMISE, 1, 5, 5);
        run.pleas(0, 6).call("plea", 1, 0).call("plea", 1, 4).call("court", 5, 1).call("waive", 2, 1);
        run.pass(10).due(C_LAPSED, "complain", 0, 3);
        run.pass(50).due(C_FOUND, "complain", 0, 0).find(C_FOUND).call("remedy", C_FOUND, 33);
        run.due(C_FOUND, "complain", 1, 0);
        run.pass(10).due(C_NOT_ASKED, "complain", 0, 1);
        run.due(C_OWED, "complain", 0, 2).call("ask", C_OWED);
        run.due(C_ANSWERED, "complain", 0, 4).call("ask", C_ANSWERED).call("answer", C_ANSWERED);
        run.due(C_HEARD, "complain", 0, 3).call("ask", C_HEARD).call("answer", C_HEARD).call("hear", C_HEARD);
        return run.pass(7).call("plea", 2, 1).call("limit", RULE, 20).call("delegate", 0, 1).type("ru");
    }

    /** Each of these values at that place of the arguments is refused. */
    static void eachRefused(Run run, Class<? extends RuntimeException> due, int[] values, int place, String name,
            int... args) {
        for (int value : values) {
            int[] changed = args.clone();
            changed[place] = value;
            run.refused(due, name, changed);
        }
    }

    /** No number of 0 to count - 1. */
    static int[] noNumber(int count) {
        return outside(0, count - 1);
    }

    /** No number of 0 to count - 1, and not NONE. */
    static int[] noNumberNorNone(int count) {
        return outside(NONE, count - 1);
    }

    static int[] outside(int least, int most) {
        return new int[] {LEAST, least - 1, most + 1, MOST};
    }
}
