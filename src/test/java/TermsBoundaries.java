/** The sentences of "What it is" and of "Terms", but for "Exceptions". */
final class TermsBoundaries extends Boundaries {
    private TermsBoundaries() {
    }

    static void all() {
        Sentences.heading("What it is");
        Sentences.nothingToTest("Grievancehall, to which one complains about offices: offices in a tree, which let"
            + " others act for them from days on, acts of kinds with a measure and harm, pleas at the office itself,"
            + " bars of complaints with their order, complaints of several about one act that are one, files that are"
            + " asked for, clocks that stop while they are owed, reminders that climb the tree, officers who are heard"
            + " ahead of each finding, tests by rules of the day and by likes, remedies for all likes alike, and all"
            + " findings once more by another rule.");
        Sentences.test("An object is used for at most 512 calls after it has been made; what later calls answer is"
            + " free.", TermsBoundaries::calls);
        Sentences.heading("Terms");
        officesAndActs();
        bars();
        clocksAndFiles();
        findingsAndRemedies();
    }

    private static void officesAndActs() {
        Sentences.test("Days are counted from 0.", TermsBoundaries::days);
        Sentences.test("Offices are numbered from 0, at most 10, each below another one, or below none.",
            TermsBoundaries::officeNumbers);
        Sentences.test("From a day on an office can let another one act for it, or act itself again; of several of one"
            + " day the last counts.", TermsBoundaries::fromADayOn);
        Sentences.test("Whose act it is on a day: of the one that acts for the office on that day, or who acts for that"
            + " one on that day, and so on, at most ten times.", TermsBoundaries::tenTimes);
        Sentences.test("Kinds are told by words: delay, promise, rule, answer; 0 to 3.", TermsBoundaries::kinds);
        Sentences.test("Acts are numbered from 0, at most 24: each of an office, of a kind, on the day on which it is"
            + " told, with a measure, 0 to 100, and harm, 0 to 1000; whose act it is is settled as it is told, whatever"
            + " is told later.", TermsBoundaries::acts);
        Sentences.test("A kind has a limit from each day on which one is told, 30 at first; of several of one day the"
            + " last.", TermsBoundaries::limits);
    }

    private static void bars() {
        Sentences.test("There are the people 0 to 9.", TermsBoundaries::people);
        Sentences.test("A plea is what somebody says of an act to the office itself, on a day, once.",
            TermsBoundaries::pleaOnce);
        Sentences.test("A complaint about an act is barred by the first of these that is so: 1, that person has made no"
            + " plea of it, or less than 10 days ago; 2, it is in court; 3, the act is more than 365 days ago, and that"
            + " is not waived for it.", TermsBoundaries::barred);
        Sentences.test("If there is a complaint about the act that has not lapsed, that person joins it, as long as it"
            + " is not barred for them; joining alters nothing else of it.", TermsBoundaries::joins);
    }

    private static void clocksAndFiles() {
        Sentences.test("Complaints are numbered from 0, at most 16.", TermsBoundaries::complaintNumbers);
        Sentences.test("One is OPEN at first; it is FOUND with a finding.", TermsBoundaries::openAndFound);
        Sentences.test("Each has 60 days: a day that goes by takes one, unless a file is owed, or it is FOUND; when"
            + " none is left, an OPEN one has LAPSED, for good.", TermsBoundaries::sixtyDays);
        Sentences.test("A file is asked for once, of whose act it was; it is owed until it is answered.",
            TermsBoundaries::fileOnce);
        Sentences.test("A reminder goes to that office; for each 10 days for which it is owed it climbs to the office"
            + " above, as far as there is one.", TermsBoundaries::reminderClimbs);
        Sentences.test("An officer can be heard once, when the file is answered.", TermsBoundaries::heardOnce);
    }

    private static void findingsAndRemedies() {
        Sentences.test("Likes of an act are others of the same kind that were acts of the same office.",
            TermsBoundaries::likes);
        Sentences.test("An act fails the rule, if its measure is above the limit of its kind on its day.",
            TermsBoundaries::failsTheRule);
        Sentences.test("It is unequal, if it has at least 2 likes, and its measure is above twice a number, the mean of"
            + " theirs, rounded down.", TermsBoundaries::unequal);
        Sentences.test("A finding is made for an OPEN complaint, once the officer was heard: 0 no fault, 1 fails the"
            + " rule, 2 unequal, 3 both, by the acts and limits that are told by then, for good.",
            TermsBoundaries::findings);
        Sentences.test("A remedy of some percent for a complaint that was FOUND with a fault gives the act in any case,"
            + " and all its likes that fail the rule or are unequal now, each so many of 100 of its harm, rounded down,"
            + " in place of one before.", TermsBoundaries::remedies);
    }

    private static void calls() {
        // The last of 512 calls still answers by the first ones, however many changes were told between.
        Run limits = new Run();
        for (int i = 0; i < 511; i++) {
            limits.due(i == 0 ? 30 : (i - 1) % 101, "limit", RULE, i % 101);
        }
        limits.due(510 % 101, "limit", RULE, 0);
        Check.due("calls", limits.size(), 512);

        Run delegates = offices(3);
        for (int i = 0; i < 508; i++) {
            delegates.call("delegate", 0, i == 507 ? 2 : i % 2 == 0 ? 1 : NONE);
        }
        delegates.due(2, "whose", 0, 0);
        Check.due("calls", delegates.size(), 512);

        Run both = offices(1).call("limit", ANSWER, 7);
        for (int i = 0; i < 509; i++) {
            both.call("limit", DELAY, i % 2);
        }
        both.due(7, "limit", ANSWER, 0);
        Check.due("calls", both.size(), 512);
    }

    private static void days() {
        Run run = offices(1).due(0, "whose", 0, 0).refused(ARGUMENT, "whose", 0, -1).refused(ARGUMENT, "whose", 0, 1);
        run.due(1, "pass", 1).due(0, "whose", 0, 1).refused(ARGUMENT, "whose", 0, 2);
    }

    private static void officeNumbers() {
        Run run = new Run().refused(INDEX, "office", 0);
        for (int i = 0; i < 10; i++) {
            run.refused(INDEX, "whose", i, 0).refused(INDEX, "office", i);
            run.due(i, "office", i % 2 == 0 ? NONE : i - 1).due(i, "whose", i, 0);
        }
        run.refused(STATE, "office", NONE).refused(STATE, "office", 0).refused(STATE, "office", 9);
        run.refused(INDEX, "whose", 10, 0);

        // Ten in a row, each below the one before, and ten below none.
        Run row = new Run().offices(NONE, 0, 1, 2, 3, 4, 5, 6, 7, 8).act(RULE, 9, 0, 0).pleas(0, 1);
        row.pass(10).call("complain", 0, 0).due(9, "ask", 0).pass(89).due(1, "reminder", 0);
        row.pass(1).due(0, "reminder", 0).pass(100).due(0, "reminder", 0);
        Run flat = offices(10).act(RULE, 9, 0, 0).pleas(0, 1);
        flat.pass(10).call("complain", 0, 0).due(9, "ask", 0).pass(100).due(9, "reminder", 0);
    }

    private static void fromADayOn() {
        Run run = offices(3).pass(5).call("delegate", 0, 1).pass(5).call("delegate", 0, NONE).pass(5);
        run.due(0, "whose", 0, 0).due(0, "whose", 0, 4).due(1, "whose", 0, 5).due(1, "whose", 0, 9);
        run.due(0, "whose", 0, 10).due(0, "whose", 0, 15);

        Run several = offices(3).pass(5).call("delegate", 0, 1).call("delegate", 0, NONE).call("delegate", 0, 2);
        several.due(2, "whose", 0, 5).due(0, "whose", 0, 4).pass(1).due(2, "whose", 0, 6).due(2, "whose", 0, 5);
        several.call("delegate", 0, 1).call("delegate", 0, NONE).due(0, "whose", 0, 6).due(2, "whose", 0, 5);

        Run today = offices(2).call("delegate", 0, 1).due(1, "whose", 0, 0);
        today.call("delegate", 0, NONE).due(0, "whose", 0, 0);
    }

    private static void tenTimes() {
        Run row = offices(10).due(0, "whose", 0, 0);
        for (int i = 0; i < 9; i++) {
            row.call("delegate", i, i + 1).due(i + 1, "whose", 0, 0);
        }
        row.due(9, "whose", 8, 0).due(9, "whose", 9, 0);

        for (int size = 2; size <= 10; size++) {
            Run circle = offices(10);
            for (int i = 0; i < size; i++) {
                circle.call("delegate", i, (i + 1) % size);
            }
            circle.due(10 % size, "whose", 0, 0).due((size - 1 + 10) % size, "whose", size - 1, 0);
        }

        // Each step asks who acts on that day, not on the day of the step ahead of it, nor today.
        Run days = offices(3).call("delegate", 0, 1).pass(1).call("delegate", 1, 2).pass(1).call("delegate", 1, NONE);
        days.due(1, "whose", 0, 0).due(2, "whose", 0, 1).due(1, "whose", 0, 2);
    }

    private static void kinds() {
        String[] others = {"", "d", "dela", "delays", "elay", "promis", "promisf", "qromise", "rul", "ruler", "sule",
            "answe", "answes", "answers", "bnswer"};
        for (String word : others) {
            offices(1).type(word).due(NONE, "act", 0, 31, 0).due(0, "gains", RULE, 0);
        }
        for (int kind = 0; kind < 4; kind++) {
            Run run = offices(1).type(Halls.WORDS[kind]).due(0, "act", 0, 31, 0);
            for (int other = 0; other < 4; other++) {
                run.due(other == kind ? -1 : 0, "gains", other, 100);
            }
        }
        Run numbers = new Run().due(30, "limit", 0, 30).due(30, "limit", 3, 30);
        numbers.refused(INDEX, "limit", -1, 30).refused(INDEX, "limit", 4, 30);
        numbers.due(0, "gains", 0, 30).due(0, "gains", 3, 30);
        numbers.refused(INDEX, "gains", -1, 30).refused(INDEX, "gains", 4, 30);
    }

    private static void acts() {
        Run run = offices(1).refused(INDEX, "fault", 0);
        for (int i = 0; i < 24; i++) {
            run.type("delay").due(i, "act", 0, 0, 0);
        }
        run.due(0, "fault", 0).due(0, "fault", 23).type("rule").refused(STATE, "act", 0, 0, 0);
        run.refused(INDEX, "fault", 24);

        Run ends = oneAct(0).act(RULE, 0, 100, 0).act(RULE, 0, 100, 1000).type("rule");
        ends.refused(ARGUMENT, "act", 0, -1, 0).refused(ARGUMENT, "act", 0, 101, 0);
        ends.refused(ARGUMENT, "act", 0, 0, -1).refused(ARGUMENT, "act", 0, 0, 1001);
        ends.due(-2, "gains", RULE, 100).due(0, "gains", RULE, 99).due(0, "gains", RULE, 0);

        Run day = offices(1).pass(3).act(RULE, 0, 31, 0).pass(1).call("limit", RULE, 100).due(1, "fault", 0);
        day.act(RULE, 0, 31, 0).due(0, "fault", 1);

        Run settled = offices(3).call("delegate", 0, 1).act(RULE, 0, 0, 0).call("delegate", 0, 2).act(RULE, 0, 0, 0);
        settled.call("delegate", 0, NONE).act(RULE, 0, 0, 0).call("delegate", 1, 0).call("delegate", 2, 0);
        settled.pleas(0, 3).pass(10).call("complain", 0, 0).call("complain", 0, 1).call("complain", 0, 2);
        settled.due(0, "likes", 0).due(0, "likes", 1).due(0, "likes", 2);
        settled.due(1, "ask", 0).due(2, "ask", 1).due(0, "ask", 2);
    }

    private static void limits() {
        oneAct(30).due(0, "fault", 0);
        oneAct(31).due(1, "fault", 0);
        for (int kind = 0; kind < 4; kind++) {
            new Run().due(30, "limit", kind, 0);
        }
        Run days = offices(1).pass(4).act(RULE, 0, 21, 0).pass(1).call("limit", RULE, 20).act(RULE, 0, 21, 0);
        days.pass(1).act(RULE, 0, 21, 0).act(RULE, 0, 20, 0);
        days.due(0, "fault", 0).due(1, "fault", 1).due(1, "fault", 2).due(0, "fault", 3);
        Run last = oneAct(20).due(30, "limit", RULE, 0).due(1, "fault", 0).due(0, "limit", RULE, 19);
        last.due(1, "fault", 0).due(19, "limit", RULE, 20).due(0, "fault", 0).pass(1).due(20, "limit", RULE, 0);
        last.due(0, "fault", 0);
    }

    private static void people() {
        Run run = oneAct(0).call("plea", 0, 0).call("plea", 9, 0);
        run.refused(INDEX, "plea", -1, 0).refused(INDEX, "plea", 10, 0);
        run.pass(10).due(0, "bar", 0, 0).due(0, "bar", 9, 0).due(1, "bar", 1, 0).due(1, "bar", 8, 0);
        run.refused(INDEX, "bar", -1, 0).refused(INDEX, "bar", 10, 0);
        run.due(0, "complain", 0, 0).due(0, "complain", 9, 0).due(2, "about", 0, PEOPLE);
        run.refused(INDEX, "complain", -1, 0).refused(INDEX, "complain", 10, 0);

        Run all = oneAct(0);
        for (int person = 0; person < 10; person++) {
            all.call("plea", person, 0);
        }
        all.pass(10);
        for (int person = 0; person < 10; person++) {
            all.due(0, "complain", person, 0).due(person + 1, "about", 0, PEOPLE);
        }
    }

    private static void pleaOnce() {
        Run run = oneAct(0).act(RULE, 0, 0, 0).call("plea", 3, 0).refused(STATE, "plea", 3, 0);
        run.pass(1).refused(STATE, "plea", 3, 0).call("plea", 4, 0).call("plea", 3, 1);
        run.pass(9).due(0, "bar", 3, 0).due(1, "bar", 4, 0).due(1, "bar", 3, 1).refused(STATE, "plea", 3, 0);
        run.pass(1).due(0, "bar", 4, 0).due(0, "bar", 3, 1).refused(STATE, "plea", 3, 1);
    }

    private static void barred() {
        Run plea = oneAct(0).due(1, "bar", 0, 0).pass(2).due(1, "bar", 0, 0).call("plea", 0, 0).due(1, "bar", 0, 0);
        plea.pass(9).due(1, "bar", 0, 0).pass(1).due(0, "bar", 0, 0).call("court", 0, 1).due(2, "bar", 0, 0);
        plea.call("court", 0, 0).due(0, "bar", 0, 0);

        Run time = offices(1).pass(2).act(RULE, 0, 0, 0).call("plea", 0, 0).pass(365).due(0, "bar", 0, 0);
        time.pass(1).due(3, "bar", 0, 0).call("waive", 0, 1).due(0, "bar", 0, 0);
        time.call("waive", 0, 0).due(3, "bar", 0, 0);

        // All that can be so at once: the first of them is told.
        for (int so = 0; so < 16; so++) {
            int person = so & 1;
            int court = so >> 1 & 1;
            int late = so >> 2 & 1;
            int waived = so >> 3 & 1;
            int due = court == 1 ? 2 : late == 1 && waived == 0 ? 3 : 0;
            Run tenDays = oneAct(0).call("plea", 0, 0).pass(355 + late).call("plea", 1, 0).pass(10);
            tenDays.call("court", 0, court).call("waive", 0, waived).due(due, "bar", person, 0).due(1, "bar", 2, 0);
            Run nineDays = oneAct(0).call("plea", 0, 0).pass(356 + late).call("plea", 1, 0).pass(9);
            nineDays.call("court", 0, court).call("waive", 0, waived);
            nineDays.due(person == 1 ? 1 : due, "bar", person, 0);
        }
    }

    private static void joins() {
        Run run = oneComplaint(0).call("plea", 1, 0).call("plea", 2, 0).refused(STATE, "complain", 1, 0);
        run.pass(9).refused(STATE, "complain", 1, 0).refused(STATE, "complain", 3, 0).due(1, "about", 0, PEOPLE);
        run.pass(1).due(0, "complain", 1, 0).due(2, "about", 0, PEOPLE).due(50, "about", 0, DAYS_LEFT);
        run.pass(49).due(1, "about", 0, DAYS_LEFT).due(0, "complain", 2, 0).due(1, "about", 0, DAYS_LEFT);
        run.pass(1).due(LAPSED, "about", 0, STATE_OF).due(1, "complain", 1, 0).due(3, "about", 0, PEOPLE);
        run.due(1, "about", 1, PEOPLE).due(60, "about", 1, DAYS_LEFT).due(1, "complain", 0, 0);

        Run found = oneAct(31).call("plea", 0, 0).call("plea", 1, 0).pass(10).call("complain", 0, 0).find(0).pass(100);
        found.due(0, "complain", 1, 0).due(FOUND, "about", 0, STATE_OF).due(2, "about", 0, PEOPLE);
        found.due(1, "about", 0, FINDING).due(60, "about", 0, DAYS_LEFT);

        Run owed = oneAct(31).call("plea", 0, 0).call("plea", 1, 0).pass(10).call("complain", 0, 0).pass(5);
        owed.call("ask", 0).pass(6).due(0, "complain", 1, 0).due(1, "about", 0, OWED).due(55, "about", 0, DAYS_LEFT);
        owed.pass(1).due(7, "answer", 0).call("hear", 0).due(0, "complain", 1, 0).refused(STATE, "hear", 0);
    }

    private static void complaintNumbers() {
        Run run = manyActs(18).pass(10).refused(INDEX, "about", 0, 0);
        for (int i = 0; i < 16; i++) {
            run.due(i, "complain", 0, i).due(i, "about", i, ACT_OF);
        }
        run.refused(STATE, "complain", 0, 16).refused(INDEX, "about", 16, 0);
    }

    private static void openAndFound() {
        Run run = oneComplaint(30).due(OPEN, "about", 0, STATE_OF).due(NONE, "about", 0, FINDING);
        run.call("ask", 0).due(OPEN, "about", 0, STATE_OF).call("answer", 0).due(OPEN, "about", 0, STATE_OF);
        run.call("hear", 0).due(OPEN, "about", 0, STATE_OF).due(NONE, "about", 0, FINDING);
        run.due(0, "find", 0).due(FOUND, "about", 0, STATE_OF).due(0, "about", 0, FINDING);
        oneComplaint(31).find(0).due(FOUND, "about", 0, STATE_OF).due(1, "about", 0, FINDING);
    }

    private static void sixtyDays() {
        Run run = oneComplaint(0).due(60, "about", 0, DAYS_LEFT).pass(1).due(59, "about", 0, DAYS_LEFT);
        run.pass(58).due(1, "about", 0, DAYS_LEFT).due(OPEN, "about", 0, STATE_OF);
        run.pass(1).due(0, "about", 0, DAYS_LEFT).due(LAPSED, "about", 0, STATE_OF);
        run.pass(1).due(0, "about", 0, DAYS_LEFT).due(LAPSED, "about", 0, STATE_OF);
        run.refused(STATE, "ask", 0).refused(STATE, "hear", 0).refused(STATE, "find", 0);
        oneComplaint(0).pass(60).due(LAPSED, "about", 0, STATE_OF).due(0, "about", 0, DAYS_LEFT);
        oneComplaint(0).pass(61).due(LAPSED, "about", 0, STATE_OF).due(0, "about", 0, DAYS_LEFT);
        oneComplaint(0).pass(100).due(LAPSED, "about", 0, STATE_OF).due(0, "about", 0, DAYS_LEFT);

        Run owed = oneComplaint(0).pass(59).call("ask", 0).pass(300).due(1, "about", 0, DAYS_LEFT);
        owed.due(OPEN, "about", 0, STATE_OF).call("answer", 0).due(OPEN, "about", 0, STATE_OF);
        owed.pass(1).due(LAPSED, "about", 0, STATE_OF).due(0, "about", 0, DAYS_LEFT);

        Run found = oneComplaint(0).pass(59).find(0).pass(300).due(1, "about", 0, DAYS_LEFT);
        found.due(FOUND, "about", 0, STATE_OF);

        // Each has its own.
        Run two = manyActs(2).pass(10).call("complain", 0, 0).pass(20).call("complain", 0, 1).pass(40);
        two.due(LAPSED, "about", 0, STATE_OF).due(20, "about", 1, DAYS_LEFT).due(OPEN, "about", 1, STATE_OF);
    }

    private static void fileOnce() {
        Run run = offices(2).call("delegate", 0, 1).act(RULE, 0, 0, 0).call("delegate", 0, NONE).pleas(0, 1).pass(10);
        run.call("complain", 0, 0).due(0, "about", 0, OWED).due(1, "ask", 0).due(1, "about", 0, OWED);
        run.refused(STATE, "ask", 0).pass(100).due(1, "about", 0, OWED).refused(STATE, "ask", 0);
        run.due(100, "answer", 0).due(0, "about", 0, OWED).refused(STATE, "ask", 0).refused(STATE, "answer", 0);
    }

    private static void reminderClimbs() {
        // Office 3 acts for office 0; above it are 2, and 1.
        Run run = new Run().offices(NONE, NONE, 1, 2).call("delegate", 0, 3).act(RULE, 0, 0, 0).pleas(0, 1).pass(10);
        run.call("complain", 0, 0).pass(3).due(NONE, "reminder", 0).due(3, "ask", 0).due(3, "reminder", 0);
        run.pass(9).due(3, "reminder", 0).pass(1).due(2, "reminder", 0);
        run.pass(9).due(2, "reminder", 0).pass(1).due(1, "reminder", 0);
        run.pass(10).due(1, "reminder", 0).pass(70).due(1, "reminder", 0).call("answer", 0).due(NONE, "reminder", 0);

        // It goes to the office whose act it was, also if another one acts for it since then.
        Run later = offices(1).offices(0, NONE).act(RULE, 1, 0, 0).pleas(0, 1).pass(10).call("complain", 0, 0);
        later.call("delegate", 1, 2).due(1, "ask", 0).call("delegate", 0, 2).due(1, "reminder", 0);
        later.pass(10).due(0, "reminder", 0).pass(10).due(0, "reminder", 0);
    }

    private static void heardOnce() {
        Run run = oneComplaint(0).refused(STATE, "hear", 0).call("ask", 0).refused(STATE, "hear", 0).pass(1);
        run.refused(STATE, "hear", 0).call("answer", 0).call("hear", 0).refused(STATE, "hear", 0).pass(1);
        run.refused(STATE, "hear", 0).due(0, "find", 0).refused(STATE, "hear", 0);
    }

    private static void likes() {
        Run run = offices(2).act(RULE, 0, 0, 0).due(0, "likes", 0).act(DELAY, 0, 0, 0).act(RULE, 1, 0, 0);
        run.due(0, "likes", 0).due(0, "likes", 1).due(0, "likes", 2).call("delegate", 1, 0).act(RULE, 1, 99, 9);
        run.due(1, "likes", 0).due(1, "likes", 3).due(0, "likes", 2).pass(1).act(RULE, 0, 0, 0);
        run.due(2, "likes", 0).due(2, "likes", 3).due(2, "likes", 4).call("delegate", 1, NONE);
        run.call("delegate", 0, 1).act(RULE, 0, 0, 0).due(2, "likes", 0).due(1, "likes", 2).due(1, "likes", 5);
    }

    private static void failsTheRule() {
        for (int limit : new int[] {0, 1, 50, 99}) {
            Run run = offices(1).call("limit", RULE, limit).act(RULE, 0, limit, 0).act(RULE, 0, limit + 1, 0);
            run.due(0, "fault", 0).due(1, "fault", 1);
        }
        offices(1).call("limit", RULE, 100).act(RULE, 0, 100, 0).due(0, "fault", 0);
        Run day = oneAct(40).pass(1).call("limit", RULE, 40).due(1, "fault", 0).act(RULE, 0, 40, 0).due(0, "fault", 1);
        day.call("limit", DELAY, 0).due(0, "fault", 1).call("limit", RULE, 39).due(1, "fault", 1);
    }

    private static void unequal() {
        // The first is the act, the others are its likes: above twice 25, not above twice 25.5.
        int[][] measures = {{51, 0}, {51, 25, 26}, {50, 25, 26}, {52, 25, 26}, {1, 0, 0}, {0, 0, 0}, {1, 0, 1},
            {2, 0, 3}, {3, 0, 3}, {100, 49, 50, 50}, {100, 50, 50, 50}, {99, 49, 49, 49}, {98, 49, 49, 49}, {100, 0}, {20, 10, 10},
            {21, 10, 10}, {67, 33, 33, 34}, {66, 33, 33, 34}};
        int[] due = {0, 2, 0, 2, 2, 0, 2, 0, 2, 2, 0, 2, 0, 0, 0, 2, 2, 0};
        for (int i = 0; i < measures.length; i++) {
            Run run = offices(1).call("limit", RULE, 100);
            for (int measure : measures[i]) {
                run.act(RULE, 0, measure, 0);
            }
            run.due(due[i], "fault", 0);
        }
        Run second = offices(2).call("limit", RULE, 100).act(RULE, 0, 9, 0).act(RULE, 0, 1, 0).act(RULE, 1, 1, 0);
        second.act(DELAY, 0, 1, 0).due(0, "fault", 0).act(RULE, 0, 1, 0).due(2, "fault", 0);
    }

    private static void findings() {
        oneComplaint(30).find(0).due(0, "about", 0, FINDING);
        Run rule = oneComplaint(31).find(0).act(RULE, 0, 0, 0).act(RULE, 0, 0, 0).due(3, "fault", 0);
        rule.due(1, "about", 0, FINDING).refused(STATE, "find", 0).pass(100).due(1, "about", 0, FINDING);
        Run unequal = oneComplaint(30).act(RULE, 0, 0, 0).act(RULE, 0, 0, 0).find(0).due(2, "about", 0, FINDING);
        unequal.act(RULE, 0, 100, 0).due(0, "fault", 0).due(2, "about", 0, FINDING);
        Run both = oneComplaint(31).act(RULE, 0, 0, 0).call("ask", 0).call("answer", 0).refused(STATE, "find", 0);
        both.call("hear", 0).act(RULE, 0, 0, 0).due(3, "find", 0).due(3, "about", 0, FINDING);

        // A limit of a later day counts for the acts of that day alone.
        Run limits = oneComplaint(30).call("limit", RULE, 29).act(RULE, 0, 30, 0).find(0).due(0, "about", 0, FINDING);
        limits.due(0, "fault", 0).due(1, "fault", 1);
        oneComplaint(31).pass(60).refused(STATE, "find", 0).due(NONE, "about", 0, FINDING);
        Run late = oneComplaint(31).call("ask", 0).call("answer", 0).call("hear", 0).pass(59).due(1, "find", 0);
        late.due(FOUND, "about", 0, STATE_OF);
        Run tooLate = oneComplaint(31).call("ask", 0).call("answer", 0).call("hear", 0).pass(60);
        tooLate.refused(STATE, "find", 0).due(LAPSED, "about", 0, STATE_OF);
    }

    private static void remedies() {
        // Act 0 was FOUND to be unequal, and is not any more; of its likes 3 fails the rule, 4 does both.
        Run run = offices(1).act(RULE, 0, 29, 199).act(RULE, 0, 0, 7).act(RULE, 0, 0, 8).pleas(0, 3).pass(10);
        run.call("complain", 0, 0).find(0).due(2, "about", 0, FINDING);
        run.act(RULE, 0, 31, 1).act(RULE, 0, 100, 1000).due(0, "fault", 0).due(1, "fault", 3).due(3, "fault", 4);
        run.due(3, "remedy", 0, 99).due(197, "remedied", 0).due(NONE, "remedied", 1).due(NONE, "remedied", 2);
        run.due(0, "remedied", 3).due(990, "remedied", 4);
        run.due(3, "remedy", 0, 1).due(1, "remedied", 0).due(0, "remedied", 3).due(10, "remedied", 4);
        run.due(3, "remedy", 0, 0).due(0, "remedied", 0).due(0, "remedied", 4);
        run.due(3, "remedy", 0, 100).due(199, "remedied", 0).due(1, "remedied", 3).due(1000, "remedied", 4);

        // A like that is unequal alone; then it is not any more, and keeps what it has.
        Run like = oneComplaint(31).find(0).pass(1).call("limit", RULE, 100).act(RULE, 0, 63, 100);
        like.act(RULE, 0, 31, 100).due(2, "fault", 1).due(2, "remedy", 0, 50).due(50, "remedied", 0).due(50, "remedied", 1);
        like.due(NONE, "remedied", 2).act(RULE, 0, 34, 100).due(0, "fault", 1).due(1, "remedy", 0, 20);
        like.due(20, "remedied", 0).due(50, "remedied", 1);

        // One FOUND without a fault gives nothing, also if there is a fault now.
        Run none = oneComplaint(30).find(0).act(RULE, 0, 0, 0).act(RULE, 0, 0, 0).due(2, "fault", 0);
        none.refused(STATE, "remedy", 0, 50).due(NONE, "remedied", 0);
    }
}
