/** The sentences of "Exceptions", and the rest of "Terms": each holds for all calls of the face. */
final class ExceptionBoundaries extends Boundaries {
    private ExceptionBoundaries() {
    }

    static void all() {
        Sentences.test("IndexOutOfBoundsException: there is no such office, kind, act, person, or complaint.",
            ExceptionBoundaries::index);
        Sentences.test("IllegalArgumentException: another argument is out of its range.",
            ExceptionBoundaries::argument);
        Sentences.test("IllegalStateException: as the method tells.", ExceptionBoundaries::state);
        Sentences.test("If several apply, the one that is named first in the throws clause is thrown; a call that"
            + " throws changes nothing.", ExceptionBoundaries::several);
        Sentences.test("The constants: NONE = -1: There is none.", () -> Check.due("NONE", NONE, -1));
        Sentences.test("How complaints are.", ExceptionBoundaries::constants);
        Sentences.nothingToTest("Ahead of the calls letter, office, delegate, whose, limit, act, court, waive the"
            + " interface says: ---- offices, acts.");
        Sentences.nothingToTest("Ahead of the calls plea, bar, complain, ask, answer, hear, find, remedy, pass the"
            + " interface says: ---- pleas, complaints.");
        Sentences.nothingToTest("Ahead of the calls about, reminder, fault, likes, remedied, gains the interface says:"
            + " ---- questions.");
    }

    private static void constants() {
        Check.due("OPEN", OPEN, 0);
        Check.due("FOUND", FOUND, 1);
        Check.due("LAPSED", LAPSED, 2);
    }

    private static void index() {
        Run run = full();
        eachRefused(run, INDEX, noNumberNorNone(4), 0, "office", 0);
        eachRefused(run, INDEX, noNumber(4), 0, "delegate", 0, 1);
        eachRefused(run, INDEX, noNumberNorNone(4), 1, "delegate", 1, 0);
        eachRefused(run, INDEX, noNumber(4), 0, "whose", 0, 0);
        eachRefused(run, INDEX, noNumber(4), 0, "limit", 0, 50);
        eachRefused(run, INDEX, noNumber(4), 0, "act", 0, 50, 50);
        for (String ofAct : new String[] {"court", "waive"}) {
            eachRefused(run, INDEX, noNumber(6), 0, ofAct, 0, 1);
            eachRefused(run, INDEX, noNumber(6), 0, ofAct, 0, 0);
        }
        for (String ofPerson : new String[] {"plea", "bar", "complain"}) {
            eachRefused(run, INDEX, noNumber(10), 0, ofPerson, 9, 0);
            eachRefused(run, INDEX, noNumber(6), 1, ofPerson, 0, 0);
            run.refused(INDEX, ofPerson, 10, 6).refused(INDEX, ofPerson, -1, -1);
        }
        for (String ofComplaint : new String[] {"ask", "answer", "hear", "find", "reminder"}) {
            eachRefused(run, INDEX, noNumber(6), 0, ofComplaint, 0);
        }
        eachRefused(run, INDEX, noNumber(6), 0, "remedy", C_FOUND, 50);
        eachRefused(run, INDEX, noNumber(6), 0, "about", 0, 0);
        for (String ofAct : new String[] {"fault", "likes", "remedied"}) {
            eachRefused(run, INDEX, noNumber(6), 0, ofAct, 0);
        }
        eachRefused(run, INDEX, noNumber(4), 0, "gains", 0, 50);
        for (String ofComplaint : new String[] {"ask", "answer", "hear", "find", "reminder"}) {
            oneAct(0).refused(INDEX, ofComplaint, 0);
        }
    }

    private static void argument() {
        Run run = full();
        for (int sign : new int[] {0, 'a' - 1, 'z' + 1, 'A', 'Z', ' ', '0', 'a' + 128, 'a' + 256, 0xffff}) {
            run.refused(ARGUMENT, "letter", sign);
        }
        for (int office = 0; office < 4; office++) {
            run.refused(ARGUMENT, "delegate", office, office);
        }
        eachRefused(run, ARGUMENT, outside(0, 77), 1, "whose", 0, 0);
        eachRefused(run, ARGUMENT, outside(0, 100), 1, "limit", 0, 0);
        eachRefused(run, ARGUMENT, outside(0, 100), 1, "act", 0, 0, 0);
        eachRefused(run, ARGUMENT, outside(0, 1000), 2, "act", 0, 0, 0);
        eachRefused(run, ARGUMENT, outside(0, 100), 1, "remedy", C_FOUND, 0);
        eachRefused(run, ARGUMENT, outside(1, 100), 0, "pass", 0);
        eachRefused(run, ARGUMENT, outside(0, 5), 1, "about", C_OWED, 0);
        eachRefused(run, ARGUMENT, outside(0, 100), 1, "gains", 0, 0);
    }

    /** All states for which a method tells of a refusal, but for those of something that is full. */
    private static void state() {
        Run run = full();
        run.refused(STATE, "plea", 0, 0).refused(STATE, "plea", 2, 1);
        run.refused(STATE, "complain", 3, 0).refused(STATE, "complain", 2, 1).refused(STATE, "complain", 0, 5);
        for (int complaint : new int[] {C_LAPSED, C_FOUND, C_OWED, C_ANSWERED, C_HEARD}) {
            run.refused(STATE, "ask", complaint);
        }
        for (int complaint : new int[] {C_LAPSED, C_FOUND, C_NOT_ASKED, C_ANSWERED, C_HEARD}) {
            run.refused(STATE, "answer", complaint);
        }
        for (int complaint : new int[] {C_LAPSED, C_FOUND, C_NOT_ASKED, C_OWED, C_HEARD}) {
            run.refused(STATE, "hear", complaint);
        }
        for (int complaint : new int[] {C_LAPSED, C_FOUND, C_NOT_ASKED, C_OWED, C_ANSWERED}) {
            run.refused(STATE, "find", complaint);
        }
        for (int complaint : new int[] {C_LAPSED, C_NOT_ASKED, C_OWED, C_ANSWERED, C_HEARD}) {
            run.refused(STATE, "remedy", complaint, 50);
        }
        // What was refused of one complaint is answered of another.
        run.due(2, "ask", C_NOT_ASKED).due(7, "answer", C_OWED).due(0, "hear", C_ANSWERED).due(0, "find", C_HEARD);
        run.due(1, "remedy", C_FOUND, 50);

        Run full = offices(10).type("promise").refused(STATE, "letter", 'a').refused(STATE, "office", NONE);
        full.refused(STATE, "office", 9).due(0, "act", 0, 0, 0).due(1, "letter", 'a');
        sixteenComplaints().refused(STATE, "complain", 0, 16);
        manyActs(24).refused(STATE, "act", 0, 0, 0);
        full().pass(4922).refused(STATE, "pass", 2).due(5000, "pass", 1).refused(STATE, "pass", 1);
    }

    private static void several() {
        offices(10).type("promise").refused(ARGUMENT, "letter", 'A').refused(ARGUMENT, "letter", 0);
        Run full = offices(10).refused(INDEX, "office", 10).refused(INDEX, "office", -2);
        full.refused(INDEX, "delegate", 10, 10).refused(INDEX, "delegate", NONE, NONE);
        full.refused(INDEX, "delegate", -2, -2).refused(INDEX, "delegate", MOST, MOST);
        full.refused(INDEX, "whose", 10, 1).refused(INDEX, "whose", -1, -1);

        Run run = full();
        run.refused(INDEX, "limit", 4, 101).refused(INDEX, "limit", -1, -1);
        run.refused(INDEX, "act", 4, 101, 1001).refused(INDEX, "act", -1, 101, 0).refused(INDEX, "act", 4, 0, 1001);
        run.refused(INDEX, "remedy", 6, 101).refused(INDEX, "remedy", -1, -1);
        run.refused(ARGUMENT, "remedy", C_LAPSED, 101).refused(ARGUMENT, "remedy", C_NOT_ASKED, -1);
        run.refused(INDEX, "about", 6, 6).refused(INDEX, "about", -1, -1);
        run.refused(INDEX, "gains", 4, 101).refused(INDEX, "gains", -1, -1);
        run.refused(INDEX, "plea", 0, 6).refused(INDEX, "plea", 10, 0);

        Run acts = manyActs(24).type("rule");
        acts.refused(INDEX, "act", 1, 0, 0).refused(INDEX, "act", 1, 101, 0).refused(INDEX, "act", 1, 101, 1001);
        acts.refused(ARGUMENT, "act", 0, 101, 0).refused(ARGUMENT, "act", 0, 0, 1001);
        acts.refused(ARGUMENT, "act", 0, -1, -1).refused(STATE, "act", 0, 100, 1000);

        Run complaints = sixteenComplaints();
        complaints.refused(INDEX, "complain", 10, 16).refused(INDEX, "complain", 0, 18);
        complaints.refused(INDEX, "complain", -1, 16).refused(STATE, "complain", 1, 16);

        Run end = oneComplaint(0).call("ask", 0).pass(4940).refused(ARGUMENT, "pass", 101).refused(ARGUMENT, "pass", 0);
        end.refused(ARGUMENT, "pass", -50).refused(ARGUMENT, "pass", MOST).refused(STATE, "pass", 51);
        end.due(5000, "pass", 50).refused(ARGUMENT, "pass", 0).refused(ARGUMENT, "pass", 101);
    }
}
