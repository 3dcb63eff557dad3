/** Promises 10 to 15: plea, bar, complain, ask, answer, hear. */
final class ComplaintBoundaries extends Boundaries {
    private ComplaintBoundaries() {
    }

    static void all() {
        plea();
        bar();
        complain();
        ask();
        answer();
        hear();
    }

    private static void plea() {
        Sentences.heading("Promise 10");
        Sentences.test("Tells a plea, today.", () -> oneAct(0).pass(3).call("plea", 0, 0).pass(9).due(1, "bar", 0, 0)
            .pass(1).due(0, "bar", 0, 0).due(1, "bar", 1, 0));
        Sentences.test("Throws IndexOutOfBoundsException as told, of the person or the act", () -> noSuch("plea"));
        Sentences.test("Throws IllegalStateException if that person made one of the act", ComplaintBoundaries::again);
    }

    private static void bar() {
        Sentences.heading("Promise 11");
        Sentences.test("Returns by what a complaint would be barred now.", ComplaintBoundaries::barNow);
        Sentences.test("Returns 0 by nothing, otherwise 1 to 3.", () -> oneAct(0).unaltered(1, "bar", 0, 0)
            .call("plea", 0, 0).pass(365).unaltered(0, "bar", 0, 0).call("court", 0, 1).unaltered(2, "bar", 0, 0)
            .call("court", 0, 0).pass(1).unaltered(3, "bar", 0, 0).call("court", 0, 1).due(2, "bar", 0, 0)
            .due(1, "bar", 1, 0).call("court", 0, 0).call("waive", 0, 1).due(0, "bar", 0, 0));
        Sentences.test("Throws IndexOutOfBoundsException as told, of the person or the act", () -> noSuch("bar"));
    }

    private static void complain() {
        Sentences.heading("Promise 12");
        Sentences.test("Complains, or joins a complaint; to join once more alters nothing.",
            ComplaintBoundaries::joinsOnceMore);
        Sentences.test("Returns its number.", ComplaintBoundaries::numbers);
        Sentences.test("Throws IndexOutOfBoundsException as told, of the person or the act", () -> noSuch("complain"));
        Sentences.test("Throws IllegalStateException if it is barred, or there are 16 and none to join", () -> {
            barred();
            sixteen();
        });
    }

    private static void ask() {
        Sentences.heading("Promise 13");
        Sentences.test("Asks for the file.", () -> oneComplaint(0).due(0, "about", 0, OWED).call("ask", 0)
            .due(1, "about", 0, OWED).pass(100).due(1, "about", 0, OWED).due(60, "about", 0, DAYS_LEFT));
        Sentences.test("Returns of which office.", ComplaintBoundaries::askedOffice);
        Sentences.test("Throws IndexOutOfBoundsException as told", () -> noComplaint("ask"));
        Sentences.test("Throws IllegalStateException if it is not OPEN, or it was asked for",
            ComplaintBoundaries::askRefused);
    }

    private static void answer() {
        Sentences.heading("Promise 14");
        Sentences.test("Answers with the file.", () -> oneComplaint(0).pass(58).call("ask", 0).pass(10)
            .call("answer", 0).due(0, "about", 0, OWED).due(NONE, "reminder", 0).due(2, "about", 0, DAYS_LEFT)
            .pass(1).due(1, "about", 0, DAYS_LEFT).pass(1).due(LAPSED, "about", 0, STATE_OF));
        Sentences.test("Returns for how many days it was owed.", ComplaintBoundaries::owedDays);
        Sentences.test("Throws IndexOutOfBoundsException as told", () -> noComplaint("answer"));
        Sentences.test("Throws IllegalStateException if it is not owed", ComplaintBoundaries::answerRefused);
    }

    private static void hear() {
        Sentences.heading("Promise 15");
        Sentences.test("Hears the officer.", () -> oneComplaint(31).call("ask", 0).call("answer", 0)
            .refused(STATE, "find", 0).call("hear", 0).due(OPEN, "about", 0, STATE_OF).due(60, "about", 0, DAYS_LEFT)
            .due(1, "find", 0));
        Sentences.test("Throws IndexOutOfBoundsException as told", () -> noComplaint("hear"));
        Sentences.test("Throws IllegalStateException if it is not OPEN, the file was not answered, or the officer was"
            + " heard", ComplaintBoundaries::hearRefused);
    }

    /** For the three calls of a person and an act: numbers of neither are refused, and the last ones are not. */
    private static void noSuch(String name) {
        offices(1).refused(INDEX, name, 0, 0).refused(INDEX, name, 0, NONE).refused(INDEX, name, 10, 0);
        for (int acts : new int[] {1, 24}) {
            Run run = manyActs(acts).call("plea", 8, acts - 1).pass(10);
            eachRefused(run, INDEX, noNumber(10), 0, name, 0, acts - 1);
            eachRefused(run, INDEX, noNumber(acts), 1, name, 8, 0);
            run.refused(INDEX, name, 10, acts).refused(INDEX, name, -1, -1).refused(INDEX, name, 9, acts);
            run.call(name, name.equals("plea") ? 9 : 8, acts - 1);
        }
    }

    private static void again() {
        Run run = oneAct(0).act(RULE, 0, 0, 0).call("plea", 0, 0).refused(STATE, "plea", 0, 0).pass(1);
        run.call("plea", 9, 0).call("plea", 0, 1).refused(STATE, "plea", 9, 0).refused(STATE, "plea", 0, 1).pass(9);
        run.due(0, "bar", 0, 0).due(1, "bar", 9, 0).due(1, "bar", 0, 1).refused(STATE, "plea", 0, 0);
        run.call("complain", 0, 0).refused(STATE, "plea", 0, 0).pass(100).refused(STATE, "plea", 0, 0);
        run.due(0, "bar", 0, 0).call("plea", 8, 0).call("plea", 9, 1);
        // One of the first day counts as well as any.
        Run last = manyActs(24).refused(STATE, "plea", 0, 23).call("plea", 9, 23).refused(STATE, "plea", 9, 23);
        last.call("plea", 9, 0);
    }

    private static void barNow() {
        Run run = oneAct(0).due(1, "bar", 0, 0).call("plea", 0, 0).due(1, "bar", 0, 0).pass(9).due(1, "bar", 0, 0);
        run.pass(1).due(0, "bar", 0, 0).due(0, "complain", 0, 0).due(0, "bar", 0, 0).call("court", 0, 1);
        run.due(2, "bar", 0, 0).call("court", 0, 0).due(0, "bar", 0, 0).pass(355).due(0, "bar", 0, 0).pass(1);
        run.due(3, "bar", 0, 0).call("waive", 0, 1).due(0, "bar", 0, 0).call("plea", 1, 0).due(1, "bar", 1, 0);
        run.pass(9).due(1, "bar", 1, 0).pass(1).due(0, "bar", 1, 0).call("waive", 0, 0).due(3, "bar", 1, 0);

        // The days are those since the act and since the plea, not those since day 0.
        Run late = offices(1).pass(400).act(RULE, 0, 0, 0).pass(100).call("plea", 0, 0).pass(9).due(1, "bar", 0, 0);
        late.pass(1).due(0, "bar", 0, 0).pass(255).due(0, "bar", 0, 0).pass(1).due(3, "bar", 0, 0);
        Run end = offices(1).pass(4634).act(RULE, 0, 0, 0).call("plea", 0, 0).pass(365).due(0, "bar", 0, 0);
        end.pass(1).due(3, "bar", 0, 0);
    }

    private static void joinsOnceMore() {
        Run open = oneAct(31).call("plea", 0, 0).call("plea", 9, 0).pass(10).due(0, "complain", 0, 0);
        open.unaltered(0, "complain", 0, 0).pass(59).unaltered(0, "complain", 0, 0).due(1, "about", 0, PEOPLE);
        open.due(0, "complain", 9, 0).due(2, "about", 0, PEOPLE).unaltered(0, "complain", 9, 0);
        open.unaltered(0, "complain", 0, 0).call("ask", 0).pass(11).unaltered(0, "complain", 0, 0);
        open.due(11, "answer", 0).unaltered(0, "complain", 9, 0).call("hear", 0).unaltered(0, "complain", 0, 0);
        open.due(1, "find", 0).unaltered(0, "complain", 0, 0).unaltered(0, "complain", 9, 0);
        open.call("remedy", 0, 50).unaltered(0, "complain", 0, 0).due(2, "about", 0, PEOPLE);

        // To join once more is refused too, if it is barred by now.
        open.call("court", 0, 1).refused(STATE, "complain", 0, 0).call("court", 0, 0).due(0, "complain", 0, 0);

        // About one that has LAPSED the same person complains anew.
        Run anew = oneComplaint(0).pass(59).due(0, "complain", 0, 0).pass(1).due(1, "complain", 0, 0);
        anew.due(1, "about", 0, PEOPLE).due(1, "about", 1, PEOPLE).unaltered(1, "complain", 0, 0);
    }

    private static void numbers() {
        Run run = manyActs(17).pass(10);
        for (int i = 0; i < 16; i++) {
            run.due(i, "complain", 0, 16 - i);
        }
        for (int i = 0; i < 16; i++) {
            run.due(i, "complain", 0, 16 - i).due(16 - i, "about", i, ACT_OF);
        }
        // Of several about one act only the last can be not LAPSED.
        Run anew = oneComplaint(0);
        for (int i = 1; i < 5; i++) {
            anew.pass(60).due(i, "complain", 0, 0).due(i, "complain", 0, 0).due(LAPSED, "about", i - 1, STATE_OF);
        }
        anew.find(4).pass(60).due(4, "complain", 0, 0);
    }

    private static void barred() {
        Run run = oneAct(0).refused(STATE, "complain", 0, 0).call("plea", 0, 0).refused(STATE, "complain", 0, 0);
        run.pass(9).refused(STATE, "complain", 0, 0).pass(1).call("court", 0, 1).refused(STATE, "complain", 0, 0);
        run.call("court", 0, 0).due(0, "complain", 0, 0);

        Run late = oneAct(0).pleas(0, 1).pass(366).refused(STATE, "complain", 0, 0).refused(INDEX, "about", 0, 0);
        late.call("waive", 0, 1).due(0, "complain", 0, 0).call("waive", 0, 0).refused(STATE, "complain", 0, 0);
        oneAct(0).pleas(0, 1).pass(365).due(0, "complain", 0, 0);
    }

    private static void sixteen() {
        Run run = sixteenComplaints().refused(STATE, "complain", 0, 16).refused(STATE, "complain", 0, 17);
        run.refused(STATE, "complain", 1, 15).refused(INDEX, "about", 16, 0).refused(INDEX, "complain", 0, 18);
        run.call("plea", 9, 15).pass(10).due(15, "complain", 9, 15).due(2, "about", 15, PEOPLE);
        run.due(0, "complain", 0, 0).pass(49).due(15, "complain", 0, 15).find(15).pass(1).due(15, "complain", 0, 15);
        run.refused(STATE, "complain", 0, 0).refused(STATE, "complain", 0, 16);
        // The last of them is just inside.
        Run last = manyActs(16).pass(10);
        for (int act = 0; act < 15; act++) {
            last.call("complain", 0, act);
        }
        last.due(15, "complain", 0, 15).due(15, "about", 15, ACT_OF);
    }

    private static void noComplaint(String name) {
        oneAct(0).refused(INDEX, name, 0).refused(INDEX, name, NONE);
        Run run = oneComplaint(0);
        if (!name.equals("ask")) {
            run.call("ask", 0);
        }
        if (name.equals("hear")) {
            run.call("answer", 0);
        }
        eachRefused(run, INDEX, noNumber(1), 0, name, 0);
        run.due(0, name, 0);
        Run full = sixteenComplaints();
        eachRefused(full, INDEX, noNumber(16), 0, name, 0);
        full.due(0, "ask", 15).due(0, "answer", 15).due(0, "hear", 15);
    }

    private static void askedOffice() {
        Run run = offices(10).call("delegate", 0, 9).call("delegate", 9, 8).act(RULE, 0, 0, 0).act(RULE, 9, 0, 0);
        run.act(RULE, 8, 0, 0).act(RULE, 1, 0, 0).call("delegate", 8, 7).call("delegate", 1, 0).pleas(0, 4).pass(10);
        for (int i = 0; i < 4; i++) {
            run.due(i, "complain", 0, i).due(i == 3 ? 1 : 8, "ask", i);
        }
    }

    private static void askRefused() {
        Run run = oneComplaint(0).call("ask", 0).refused(STATE, "ask", 0).pass(10).refused(STATE, "ask", 0);
        run.due(10, "answer", 0).refused(STATE, "ask", 0).call("hear", 0).refused(STATE, "ask", 0).call("find", 0);
        run.refused(STATE, "ask", 0);
        oneComplaint(0).pass(59).due(0, "ask", 0).due(1, "about", 0, OWED);
        oneComplaint(0).pass(60).refused(STATE, "ask", 0).due(0, "about", 0, OWED);
        Run answered = oneComplaint(0).call("ask", 0).call("answer", 0).pass(60).refused(STATE, "ask", 0);
        answered.due(LAPSED, "about", 0, STATE_OF).due(1, "complain", 0, 0).due(0, "ask", 1);
    }

    private static void owedDays() {
        oneComplaint(0).call("ask", 0).due(0, "answer", 0);
        oneComplaint(0).pass(1).call("ask", 0).pass(1).due(1, "answer", 0);
        oneComplaint(0).call("ask", 0).pass(60).due(60, "answer", 0).due(60, "about", 0, DAYS_LEFT);
        oneComplaint(0).call("ask", 0).pass(4990).due(4990, "answer", 0).due(60, "about", 0, DAYS_LEFT);
        Run two = manyActs(2).pass(10).call("complain", 0, 0).call("complain", 0, 1).call("ask", 0).pass(3);
        two.call("ask", 1).pass(4).due(7, "answer", 0).due(4, "answer", 1);
    }

    private static void answerRefused() {
        Run run = oneComplaint(0).refused(STATE, "answer", 0).pass(5).refused(STATE, "answer", 0).call("ask", 0);
        run.due(0, "answer", 0).refused(STATE, "answer", 0).call("hear", 0).refused(STATE, "answer", 0);
        run.call("find", 0).refused(STATE, "answer", 0);
        oneComplaint(0).pass(60).refused(STATE, "answer", 0);
        oneComplaint(0).call("ask", 0).call("answer", 0).pass(60).refused(STATE, "answer", 0);
        // A file of one complaint is no file of another.
        Run two = manyActs(2).pass(10).call("complain", 0, 0).call("complain", 0, 1).call("ask", 0);
        two.refused(STATE, "answer", 1).due(0, "answer", 0);
    }

    private static void hearRefused() {
        Run run = oneComplaint(31).refused(STATE, "hear", 0).call("ask", 0).refused(STATE, "hear", 0);
        run.call("answer", 0).due(0, "hear", 0).refused(STATE, "hear", 0).call("find", 0).refused(STATE, "hear", 0);
        Run inTime = oneComplaint(31).call("ask", 0).call("answer", 0).pass(59).due(0, "hear", 0);
        inTime.refused(STATE, "hear", 0).due(1, "find", 0);
        Run late = oneComplaint(31).call("ask", 0).call("answer", 0).pass(60).refused(STATE, "hear", 0);
        late.refused(STATE, "find", 0);
        oneComplaint(31).pass(60).refused(STATE, "hear", 0);
        Run heard = oneComplaint(31).call("ask", 0).call("answer", 0).call("hear", 0).pass(60);
        heard.refused(STATE, "hear", 0);
        // Who is heard of one complaint is not heard of another.
        Run two = manyActs(2).pass(10).call("complain", 0, 0).call("complain", 0, 1).call("ask", 0).call("ask", 1);
        two.call("answer", 0).refused(STATE, "hear", 1).call("hear", 0).call("answer", 1).refused(STATE, "find", 1);
        two.call("hear", 1).due(0, "find", 1);
    }
}
