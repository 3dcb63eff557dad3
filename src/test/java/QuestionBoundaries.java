/** Promises 19 to 24: about, reminder, fault, likes, remedied, gains. */
final class QuestionBoundaries extends Boundaries {
    private QuestionBoundaries() {
    }

    static void all() {
        about();
        reminder();
        ofActs();
        gains();
    }

    private static void about() {
        Sentences.heading("Promise 19");
        Sentences.test("Tells of a complaint.", QuestionBoundaries::aboutAlters);
        Sentences.test("what: 0 OPEN to LAPSED, 1 its act, 2 how many days it has left, 3 how many people complain, 4"
            + " whether a file is owed (1 or 0), 5 its finding, NONE without one", QuestionBoundaries::aboutWhat);
        Sentences.test("Throws IndexOutOfBoundsException as told", () -> {
            oneAct(0).refused(INDEX, "about", 0, 0).refused(INDEX, "about", NONE, 0);
            eachRefused(oneComplaint(0), INDEX, noNumber(1), 0, "about", 0, 5);
            Run full = sixteenComplaints();
            eachRefused(full, INDEX, noNumber(16), 0, "about", 0, 1);
            full.due(15, "about", 15, ACT_OF).refused(INDEX, "about", 16, 6).refused(INDEX, "about", -1, -1);
        });
        Sentences.test("Throws IllegalArgumentException if what is out of range", () -> {
            eachRefused(oneComplaint(0), ARGUMENT, outside(0, 5), 1, "about", 0, 0);
            eachRefused(full(), ARGUMENT, outside(0, 5), 1, "about", C_FOUND, 0);
        });
    }

    private static void reminder() {
        Sentences.heading("Promise 20");
        Sentences.test("Returns to which office the reminder goes now.", QuestionBoundaries::reminderNow);
        Sentences.test("Returns the office; NONE if no file is owed.", () -> oneComplaint(0)
            .unaltered(NONE, "reminder", 0).call("ask", 0).unaltered(0, "reminder", 0).call("answer", 0)
            .unaltered(NONE, "reminder", 0).call("hear", 0).due(NONE, "reminder", 0).call("find", 0).pass(100)
            .due(NONE, "reminder", 0));
        Sentences.test("Throws IndexOutOfBoundsException as told", () -> {
            oneAct(0).refused(INDEX, "reminder", 0).refused(INDEX, "reminder", NONE);
            eachRefused(oneComplaint(0).call("ask", 0), INDEX, noNumber(1), 0, "reminder", 0);
            Run full = sixteenComplaints().call("ask", 15);
            eachRefused(full, INDEX, noNumber(16), 0, "reminder", 0);
            full.due(0, "reminder", 15);
        });
    }

    private static void ofActs() {
        Sentences.heading("Promise 21");
        Sentences.test("Returns what the finding of an act would be now, 0 to 3, whether there is a complaint or not.",
            QuestionBoundaries::faultNow);
        Sentences.test("Throws IndexOutOfBoundsException as told", () -> noAct("fault", 0));
        Sentences.heading("Promise 22");
        Sentences.test("Returns how many likes an act has.", QuestionBoundaries::likes);
        Sentences.test("Throws IndexOutOfBoundsException as told", () -> noAct("likes", 23));
        Sentences.heading("Promise 23");
        Sentences.test("Returns the remedy of an act.", () -> oneComplaint(31).act(RULE, 0, 31, 1000).find(0)
            .call("remedy", 0, 33).unaltered(33, "remedied", 0).unaltered(330, "remedied", 1).pass(100)
            .due(33, "remedied", 0).call("remedy", 0, 5).due(5, "remedied", 0).due(50, "remedied", 1));
        Sentences.test("Returns the sum; NONE without one.", () -> oneComplaint(31).act(RULE, 0, 31, 0)
            .act(RULE, 0, 30, 9).unaltered(NONE, "remedied", 0).find(0).due(NONE, "remedied", 0)
            .due(2, "remedy", 0, 100).due(100, "remedied", 0).due(0, "remedied", 1).due(NONE, "remedied", 2)
            .due(2, "remedy", 0, 0).due(0, "remedied", 0).unaltered(NONE, "remedied", 2));
        Sentences.test("Throws IndexOutOfBoundsException as told", () -> noAct("remedied", NONE));
    }

    private static void gains() {
        Sentences.heading("Promise 24");
        Sentences.test("Judges all acts once more, as if a kind had had a limit ever.", QuestionBoundaries::gainsEver);
        Sentences.test("kind: 0 to 3", QuestionBoundaries::gainsKinds);
        Sentences.test("limit: 0 to 100", () -> oneAct(1).act(RULE, 0, 100, 0).due(1, "gains", RULE, 0)
            .due(0, "gains", RULE, 1).due(0, "gains", RULE, 99).due(-1, "gains", RULE, 100));
        Sentences.test("Returns how many acts of the kind fail the rule then that do not now, less how many do now that"
            + " do not then.", QuestionBoundaries::gainsCount);
        Sentences.test("Throws IndexOutOfBoundsException as told, of the kind", () -> {
            Run run = oneAct(31);
            eachRefused(run, INDEX, noNumber(4), 0, "gains", 0, 50);
            run.refused(INDEX, "gains", 4, 101).refused(INDEX, "gains", -1, -1).refused(INDEX, "gains", 4, 100);
            new Run().refused(INDEX, "gains", 4, 0);
        });
        Sentences.test("Throws IllegalArgumentException if limit is out of range", () -> {
            for (int kind = 0; kind < 4; kind++) {
                eachRefused(oneAct(31), ARGUMENT, outside(0, 100), 1, "gains", kind, 50);
            }
            new Run().refused(ARGUMENT, "gains", 0, -1).refused(ARGUMENT, "gains", 3, 101);
        });
    }

    private static void aboutAlters() {
        for (int what = 0; what <= 5; what++) {
            int[] due = {FOUND, 0, 60, 1, 0, 1};
            oneComplaint(31).find(0).unaltered(due[what], "about", 0, what);
            int[] dueOwed = {OPEN, 2, 60, 1, 1, NONE};
            full().unaltered(dueOwed[what], "about", C_OWED, what);
        }
    }

    private static void aboutWhat() {
        row(oneComplaint(0), 0, OPEN, 0, 60, 1, 0, NONE);
        row(oneComplaint(0).pass(59), 0, OPEN, 0, 1, 1, 0, NONE);
        row(oneComplaint(0).pass(60), 0, LAPSED, 0, 0, 1, 0, NONE);
        row(oneComplaint(0).pass(100), 0, LAPSED, 0, 0, 1, 0, NONE);
        row(oneComplaint(0).pass(59).find(0).pass(100), 0, FOUND, 0, 1, 1, 0, 0);
        Run run = full();
        row(run, C_LAPSED, LAPSED, 3, 0, 1, 0, NONE);
        row(run, C_FOUND, FOUND, 0, 60, 2, 0, 3);
        row(run, C_NOT_ASKED, OPEN, 1, 53, 1, 0, NONE);
        row(run, C_OWED, OPEN, 2, 60, 1, 1, NONE);
        row(run, C_ANSWERED, OPEN, 4, 53, 1, 0, NONE);
        row(run, C_HEARD, OPEN, 3, 53, 1, 0, NONE);

        Run people = oneAct(0);
        for (int person = 0; person < 10; person++) {
            people.call("plea", person, 0);
        }
        people.pass(10);
        for (int person = 9; person >= 0; person--) {
            people.call("complain", person, 0).due(10 - person, "about", 0, PEOPLE).call("complain", person, 0);
        }
        row(people, 0, OPEN, 0, 60, 10, 0, NONE);
        row(sixteenComplaints(), 15, OPEN, 15, 60, 1, 0, NONE);
    }

    private static void row(Run run, int complaint, int... due) {
        for (int what = 0; what < due.length; what++) {
            run.due(due[what], "about", complaint, what);
        }
    }

    private static void reminderNow() {
        // Above office 9 stand 8 to 0: at the top it stays.
        Run run = new Run().offices(NONE, 0, 1, 2, 3, 4, 5, 6, 7, 8).act(RULE, 9, 0, 0).pleas(0, 1).pass(10);
        run.call("complain", 0, 0).call("ask", 0).due(9, "reminder", 0);
        for (int office = 8; office >= 0; office--) {
            run.pass(9).due(office + 1, "reminder", 0).pass(1).due(office, "reminder", 0);
        }
        run.pass(9).due(0, "reminder", 0).pass(1).due(0, "reminder", 0).pass(4800).due(0, "reminder", 0);

        // Several days at once climb as far, and days ahead of asking do not count.
        Run once = new Run().offices(NONE, 0, 1, 2).act(RULE, 3, 0, 0).pleas(0, 1).pass(10).call("complain", 0, 0);
        once.pass(50).due(NONE, "reminder", 0).call("ask", 0).due(3, "reminder", 0).pass(29).due(1, "reminder", 0);
        once.pass(1).due(0, "reminder", 0).pass(10).due(0, "reminder", 0);
        oneComplaint(0).call("ask", 0).pass(9).due(0, "reminder", 0).pass(1).due(0, "reminder", 0);
    }

    private static void faultNow() {
        oneAct(30).unaltered(0, "fault", 0);
        oneAct(31).unaltered(1, "fault", 0);
        oneAct(30).act(RULE, 0, 14, 0).act(RULE, 0, 15, 0).unaltered(2, "fault", 0).due(0, "fault", 1);
        oneAct(31).act(RULE, 0, 14, 0).act(RULE, 0, 15, 0).unaltered(3, "fault", 0).due(0, "fault", 2);
        Run run = oneComplaint(31).due(1, "fault", 0).find(0).due(1, "fault", 0).act(RULE, 0, 0, 0);
        run.due(1, "fault", 0).act(RULE, 0, 0, 0).due(3, "fault", 0).due(1, "about", 0, FINDING);
        run.call("remedy", 0, 100).due(3, "fault", 0).act(RULE, 0, 100, 0).due(1, "fault", 0);
        oneComplaint(31).pass(60).due(1, "fault", 0);
        oneAct(31).call("court", 0, 1).pass(400).due(1, "fault", 0);
    }

    private static void likes() {
        Run run = offices(2);
        for (int i = 0; i < 24; i++) {
            run.act(RULE, 0, i, 0).due(i, "likes", 0).due(i, "likes", i);
        }
        run.unaltered(23, "likes", 23);
        Run none = offices(2).act(RULE, 0, 0, 0).act(DELAY, 0, 0, 0).act(RULE, 1, 0, 0).unaltered(0, "likes", 0);
        none.due(0, "likes", 1).due(0, "likes", 2).act(RULE, 0, 100, 1000).due(1, "likes", 0).due(1, "likes", 3);
    }

    private static void noAct(String name, int dueOfLast) {
        offices(1).refused(INDEX, name, 0).refused(INDEX, name, NONE);
        eachRefused(oneAct(31), INDEX, noNumber(1), 0, name, 0);
        Run full = manyActs(24);
        eachRefused(full, INDEX, noNumber(24), 0, name, 0);
        full.due(dueOfLast, name, 23);
    }

    private static void gainsEver() {
        // Each act fails now by the limit of its day, and then by the one that is asked for.
        Run run = oneAct(20).pass(1).call("limit", RULE, 10).act(RULE, 0, 20, 0).pass(1).call("limit", RULE, 20);
        run.act(RULE, 0, 20, 0).unaltered(2, "gains", RULE, 19).unaltered(-1, "gains", RULE, 20);
        run.due(0, "fault", 0).due(1, "fault", 1).due(0, "fault", 2).due(20, "limit", RULE, 0);
        run.due(1, "gains", RULE, 19).due(-2, "gains", RULE, 20);
        new Run().due(0, "gains", RULE, 0).due(0, "gains", RULE, 100);
    }

    private static void gainsKinds() {
        Run run = offices(1);
        for (int kind = 0; kind < 4; kind++) {
            run.act(kind, 0, 31, 0);
        }
        run.call("limit", ANSWER, 31).due(-1, "gains", 0, 31).due(0, "gains", 3, 31).due(1, "gains", 3, 30);
        run.due(-1, "gains", 1, 100).due(-1, "gains", 2, 100).due(0, "gains", 2, 30);
        run.refused(INDEX, "gains", -1, 31).refused(INDEX, "gains", 4, 31);
    }

    private static void gainsCount() {
        Run more = offices(2);
        Run less = offices(2);
        for (int i = 0; i < 24; i++) {
            more.act(DELAY, i % 2, 30, 0).due(i + 1, "gains", DELAY, 29).due(0, "gains", DELAY, 30);
            less.act(DELAY, i % 2, 31, 0).due(-i - 1, "gains", DELAY, 31).due(0, "gains", DELAY, 30);
        }
        Run both = oneAct(40).act(RULE, 0, 50, 0).pass(1).call("limit", RULE, 90).act(RULE, 0, 60, 0);
        both.due(-1, "gains", RULE, 50).due(0, "gains", RULE, 49).due(1, "gains", RULE, 39).due(-2, "gains", RULE, 60);
        both.due(-1, "gains", RULE, 59);
        // Unequal acts are no matter of the rule.
        oneAct(20).act(RULE, 0, 0, 0).act(RULE, 0, 0, 0).due(2, "fault", 0).due(0, "gains", RULE, 30);
    }
}
