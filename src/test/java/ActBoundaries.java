/** Promises 7 to 9: act, court, waive. */
final class ActBoundaries extends Boundaries {
    private ActBoundaries() {
    }

    static void all() {
        Sentences.heading("Promise 7");
        Sentences.test("Tells an act of the kind whose word is typed; nothing is typed then, also if the word is no"
            + " kind.", ActBoundaries::words);
        Sentences.test("measure: 0 to 100", () -> offices(1).call("limit", RULE, 0).act(RULE, 0, 0, 0)
            .act(RULE, 0, 100, 0).due(0, "fault", 0).due(1, "fault", 1).due(0, "gains", RULE, 99)
            .due(-1, "gains", RULE, 100));
        Sentences.test("harm: 0 to 1000", () -> oneComplaint(31).act(RULE, 0, 31, 0).act(RULE, 0, 31, 1000).find(0)
            .due(3, "remedy", 0, 100).due(0, "remedied", 1).due(1000, "remedied", 2));
        Sentences.test("Returns its number; NONE if the word is no kind.", ActBoundaries::numbers);
        Sentences.test("Throws IndexOutOfBoundsException as told, of the office", ActBoundaries::noOffice);
        Sentences.test("Throws IllegalArgumentException if measure or harm is out of range",
            ActBoundaries::outOfRange);
        Sentences.test("Throws IllegalStateException if there are 24", ActBoundaries::twentyFour);
        court();
        waive();
    }

    private static void court() {
        Sentences.heading("Promise 8");
        Sentences.test("Tells that an act is in court, or not any more.", () -> oneAct(0).act(RULE, 0, 0, 0)
            .pleas(0, 2).pass(10).call("court", 0, 1).due(2, "bar", 0, 0).due(0, "bar", 0, 1).call("court", 0, 1)
            .due(2, "bar", 0, 0).call("court", 0, 0).due(0, "bar", 0, 0).call("court", 0, 0).due(0, "bar", 0, 0));
        Sentences.test("Returns whether it was.", () -> marked("court"));
        Sentences.test("Throws IndexOutOfBoundsException as told", () -> noAct("court"));
    }

    private static void waive() {
        Sentences.heading("Promise 9");
        Sentences.test("Waives the time for an act, or not any more.", () -> oneAct(0).act(RULE, 0, 0, 0).pleas(0, 2)
            .pass(365).due(0, "bar", 0, 0).pass(1).call("waive", 0, 1).due(0, "bar", 0, 0).due(3, "bar", 0, 1)
            .call("waive", 0, 1).due(0, "bar", 0, 0).call("waive", 0, 0).due(3, "bar", 0, 0).call("waive", 0, 0)
            .due(3, "bar", 0, 0).pass(4634).call("waive", 0, 1).due(0, "bar", 0, 0));
        Sentences.test("Returns whether it was waived.", () -> marked("waive"));
        Sentences.test("Throws IndexOutOfBoundsException as told", () -> noAct("waive"));
    }

    private static void words() {
        String[] others = {"", "a", "dela", "delayy", "yaled", "promis", "ssimorp", "rul", "ulre", "rulerul", "answe",
            "answerr"};
        for (String word : others) {
            Run run = offices(1).type(word).due(NONE, "act", 0, 50, 0).refused(INDEX, "fault", 0);
            run.due(NONE, "act", 0, 50, 0).due(1, "letter", 'r').type("ule").due(0, "act", 0, 50, 0);
        }
        for (int kind = 0; kind < 4; kind++) {
            Run run = offices(1).type(Halls.WORDS[kind]).due(0, "act", 0, 50, 0).due(-1, "gains", kind, 50);
            run.due(NONE, "act", 0, 50, 0).due(1, "letter", 'q');
        }
    }

    private static void numbers() {
        Run run = offices(1);
        for (int i = 0; i < 24; i++) {
            run.type("rule").due(i, "act", 0, 0, 0);
            if (i == 0 || i == 22) {
                run.due(NONE, "act", 0, 0, 0).type("rul").due(NONE, "act", 0, 0, 0);
            }
        }
    }

    private static void noOffice() {
        new Run().type("rule").refused(INDEX, "act", 0, 0, 0).refused(INDEX, "act", NONE, 0, 0);
        for (int count : new int[] {1, 10}) {
            Run run = offices(count).type("rule");
            eachRefused(run, INDEX, noNumber(count), 0, "act", 0, 0, 0);
            run.refused(INDEX, "act", count, 101, 1001).due(0, "act", count - 1, 0, 0);
        }
        // The office is looked at also if the word is no kind.
        offices(1).type("rul").refused(INDEX, "act", 1, 0, 0).due(4, "letter", 'e').due(0, "act", 0, 0, 0);
    }

    private static void outOfRange() {
        Run run = offices(1).type("answer");
        eachRefused(run, ARGUMENT, outside(0, 100), 1, "act", 0, 0, 0);
        eachRefused(run, ARGUMENT, outside(0, 1000), 2, "act", 0, 0, 0);
        run.refused(ARGUMENT, "act", 0, 101, 1001).due(0, "act", 0, 100, 1000);
        Run none = offices(1).type("rul").refused(ARGUMENT, "act", 0, 101, 0).refused(ARGUMENT, "act", 0, 0, 1001);
        none.due(4, "letter", 'e').due(0, "act", 0, 0, 0);
    }

    private static void twentyFour() {
        Run run = manyActs(23).type("rule").due(23, "act", 0, 0, 0).refused(STATE, "act", 0, 0, 0);
        run.type("delay").refused(STATE, "act", 0, 100, 1000).refused(ARGUMENT, "act", 0, 101, 0);
        run.refused(INDEX, "act", 1, 0, 0).refused(INDEX, "fault", 24).due(6, "letter", 's');
        run.refused(STATE, "act", 0, 0, 0).due(7, "letter", 's').refused(STATE, "letter", 's');
    }

    private static void marked(String name) {
        Run run = oneAct(0).act(RULE, 0, 0, 0).unaltered(0, name, 0, 0).due(0, name, 0, 1).unaltered(1, name, 0, 1);
        run.due(0, name, 1, 0).pass(100).due(1, name, 0, 1).due(1, name, 0, 0).unaltered(0, name, 0, 0);
        run.due(0, name, 1, 1).due(0, name, 0, 0).due(1, name, 1, 0);
        Run other = oneAct(0).due(0, name, 0, 1).due(0, name.equals("court") ? "waive" : "court", 0, 0);
        other.due(1, name, 0, 0);
        Run last = manyActs(24).due(0, name, 23, 1).due(1, name, 23, 0);
        last.due(0, name, 0, 0);
    }

    private static void noAct(String name) {
        offices(1).refused(INDEX, name, 0, 1).refused(INDEX, name, 0, 0).refused(INDEX, name, NONE, 0);
        Run run = oneAct(0).call(name, 0, 1);
        eachRefused(run, INDEX, noNumber(1), 0, name, 0, 0);
        eachRefused(run, INDEX, noNumber(1), 0, name, 0, 1);
        eachRefused(manyActs(24), INDEX, noNumber(24), 0, name, 0, 1);
        run.due(1, name, 0, 0);
    }
}
