/** Promises 16 to 18: find, remedy, pass. */
final class FindingBoundaries extends Boundaries {
    private FindingBoundaries() {
    }

    static void all() {
        find();
        remedy();
        pass();
    }

    private static void find() {
        Sentences.heading("Promise 16");
        Sentences.test("Makes the finding.", () -> oneComplaint(31).call("ask", 0).call("answer", 0).call("hear", 0)
            .due(NONE, "about", 0, FINDING).due(OPEN, "about", 0, STATE_OF).due(1, "find", 0)
            .due(1, "about", 0, FINDING).due(FOUND, "about", 0, STATE_OF).due(0, "about", 0, OWED));
        Sentences.test("Returns 0 to 3.", FindingBoundaries::allFindings);
        Sentences.test("Throws IndexOutOfBoundsException as told", () -> {
            oneAct(31).refused(INDEX, "find", 0).refused(INDEX, "find", NONE);
            Run run = oneComplaint(31).call("ask", 0).call("answer", 0).call("hear", 0);
            eachRefused(run, INDEX, noNumber(1), 0, "find", 0);
            run.due(1, "find", 0);
            Run full = sixteenComplaints().call("ask", 15).call("answer", 15).call("hear", 15);
            eachRefused(full, INDEX, noNumber(16), 0, "find", 0);
            full.due(0, "find", 15);
        });
        Sentences.test("Throws IllegalStateException if it is not OPEN, or the officer was not heard",
            FindingBoundaries::findRefused);
    }

    private static void remedy() {
        Sentences.heading("Promise 17");
        Sentences.test("Makes a remedy.", () -> oneComplaint(31).find(0).due(NONE, "remedied", 0).call("remedy", 0, 7)
            .due(7, "remedied", 0).due(FOUND, "about", 0, STATE_OF).due(1, "about", 0, FINDING));
        Sentences.test("percent: 0 to 100", FindingBoundaries::percents);
        Sentences.test("Returns how many acts it is for.", FindingBoundaries::howManyActs);
        Sentences.test("Throws IndexOutOfBoundsException as told", () -> {
            oneAct(31).refused(INDEX, "remedy", 0, 50);
            Run run = oneComplaint(31).find(0).call("remedy", 0, 10);
            eachRefused(run, INDEX, noNumber(1), 0, "remedy", 0, 50);
            run.refused(INDEX, "remedy", 1, 101).refused(INDEX, "remedy", -1, -1).due(10, "remedied", 0);
            eachRefused(sixteenComplaints(), INDEX, noNumber(16), 0, "remedy", 0, 50);
        });
        Sentences.test("Throws IllegalArgumentException if percent is out of range", () -> {
            Run run = oneComplaint(31);
            eachRefused(run, ARGUMENT, outside(0, 100), 1, "remedy", 0, 0);
            run.find(0).due(1, "remedy", 0, 100);
            eachRefused(run, ARGUMENT, outside(0, 100), 1, "remedy", 0, 0);
            run.due(100, "remedied", 0).due(1, "remedy", 0, 0).due(0, "remedied", 0);
        });
        Sentences.test("Throws IllegalStateException if it is not FOUND with a fault",
            FindingBoundaries::remedyRefused);
    }

    private static void pass() {
        Sentences.heading("Promise 18");
        Sentences.test("Lets days go by.", () -> oneComplaint(0).pass(1).due(59, "about", 0, DAYS_LEFT)
            .due(0, "whose", 0, 11).refused(ARGUMENT, "whose", 0, 12).pass(58).due(1, "about", 0, DAYS_LEFT));
        Sentences.test("days: 1 to 100", () -> new Run().due(1, "pass", 1).due(101, "pass", 100).due(102, "pass", 1)
            .due(201, "pass", 99));
        Sentences.test("Returns the day.", () -> {
            Run run = offices(1);
            int day = 0;
            for (int days : new int[] {1, 2, 100, 99, 50, 1, 100}) {
                day += days;
                run.due(day, "pass", days).due(0, "whose", 0, day);
            }
        });
        Sentences.test("Throws IllegalArgumentException if days is out of range", () -> {
            eachRefused(new Run(), ARGUMENT, outside(1, 100), 0, "pass", 1);
            Run run = oneComplaint(0).pass(59).refused(ARGUMENT, "pass", -1).refused(ARGUMENT, "pass", -59);
            eachRefused(run, ARGUMENT, outside(1, 100), 0, "pass", 1);
            run.due(1, "about", 0, DAYS_LEFT).due(70, "pass", 1).due(LAPSED, "about", 0, STATE_OF);
            // The most days that an int holds wrap around with the days so far; that is refused no other way.
            eachRefused(full(), ARGUMENT, new int[] {MOST, MOST - 76, MOST - 77, LEAST, LEAST + 77}, 0, "pass", 1);
            eachRefused(new Run().pass(5000), ARGUMENT, outside(1, 100), 0, "pass", 1);
        });
        Sentences.test("Throws IllegalStateException if it would be above 5000", FindingBoundaries::lastDay);
    }

    private static void allFindings() {
        oneComplaint(30).call("ask", 0).call("answer", 0).call("hear", 0).due(0, "find", 0);
        oneComplaint(31).call("ask", 0).call("answer", 0).call("hear", 0).due(1, "find", 0);
        for (int measure = 30; measure <= 31; measure++) {
            Run run = oneComplaint(measure).act(RULE, 0, 15, 0).act(RULE, 0, 14, 0).call("ask", 0).call("answer", 0);
            run.call("hear", 0).due(measure - 28, "find", 0).due(measure - 28, "about", 0, FINDING);
        }
        Run even = oneComplaint(30).act(RULE, 0, 15, 0).act(RULE, 0, 15, 0).find(0).due(0, "about", 0, FINDING);
        even.due(0, "fault", 0);
    }

    private static void findRefused() {
        Run run = oneComplaint(31).refused(STATE, "find", 0).call("ask", 0).refused(STATE, "find", 0);
        run.call("answer", 0).refused(STATE, "find", 0).call("hear", 0).due(1, "find", 0).refused(STATE, "find", 0);
        run.act(RULE, 0, 0, 0).act(RULE, 0, 0, 0).refused(STATE, "find", 0).due(1, "about", 0, FINDING);
        Run inTime = oneComplaint(31).call("ask", 0).call("answer", 0).call("hear", 0).pass(59).due(1, "find", 0);
        inTime.due(1, "about", 0, DAYS_LEFT);
        Run late = oneComplaint(31).call("ask", 0).call("answer", 0).call("hear", 0).pass(60);
        late.refused(STATE, "find", 0).due(LAPSED, "about", 0, STATE_OF).due(NONE, "about", 0, FINDING);
        oneComplaint(31).pass(60).refused(STATE, "find", 0);
    }

    private static void percents() {
        // So many of 100 of the harm, rounded down; a row for each percent.
        int[] harms = {0, 1, 99, 100, 101, 199, 999, 1000};
        int[] percents = {0, 1, 50, 99, 100};
        int[][] due = {{0, 0, 0, 0, 0, 0, 0, 0}, {0, 0, 0, 1, 1, 1, 9, 10}, {0, 0, 49, 50, 50, 99, 499, 500},
            {0, 0, 98, 99, 99, 197, 989, 990}, harms};
        Run run = oneComplaint(31).find(0);
        for (int harm : harms) {
            run.act(RULE, 0, 31, harm);
        }
        for (int row = 0; row < percents.length; row++) {
            run.due(9, "remedy", 0, percents[row]).due(percents[row], "remedied", 0);
            for (int i = 0; i < harms.length; i++) {
                run.due(due[row][i], "remedied", i + 1);
            }
        }
        run.refused(ARGUMENT, "remedy", 0, -1).refused(ARGUMENT, "remedy", 0, 101);
    }

    private static void howManyActs() {
        Run run = offices(2).act(RULE, 0, 31, 10).pleas(0, 1).pass(10).call("complain", 0, 0).find(0);
        run.due(1, "remedy", 0, 10).act(DELAY, 0, 99, 10).act(RULE, 1, 99, 10).due(1, "remedy", 0, 10);
        run.act(RULE, 0, 30, 10).due(1, "remedy", 0, 10).act(RULE, 0, 31, 10).due(2, "remedy", 0, 10);
        run.due(1, "remedied", 4).due(NONE, "remedied", 1).due(NONE, "remedied", 2).due(NONE, "remedied", 3);
        Run all = oneComplaint(31).find(0);
        for (int i = 1; i < 24; i++) {
            all.act(RULE, 0, 31, i).due(i + 1, "remedy", 0, 100);
        }
        all.due(24, "remedy", 0, 100).due(23, "remedied", 23);

        // The limit of today makes the like faultless.
        Run now = oneComplaint(31).act(RULE, 0, 31, 10).find(0).due(2, "remedy", 0, 50).call("limit", RULE, 31);
        now.due(1, "remedy", 0, 10).due(5, "remedied", 1).due(10, "remedied", 0);
    }

    private static void remedyRefused() {
        Run run = oneComplaint(31).refused(STATE, "remedy", 0, 50).call("ask", 0).refused(STATE, "remedy", 0, 50);
        run.call("answer", 0).refused(STATE, "remedy", 0, 50).call("hear", 0).refused(STATE, "remedy", 0, 50);
        run.call("find", 0).due(1, "remedy", 0, 50).due(1, "remedy", 0, 50);
        Run none = oneComplaint(30).find(0).refused(STATE, "remedy", 0, 50).refused(STATE, "remedy", 0, 0);
        none.act(RULE, 0, 0, 0).act(RULE, 0, 0, 0).due(2, "fault", 0).refused(STATE, "remedy", 0, 100);
        oneComplaint(31).pass(60).refused(STATE, "remedy", 0, 50).refused(STATE, "remedy", 0, 0);
        // FOUND to be unequal alone, and not any more: the finding is for good.
        Run unequal = oneComplaint(30).act(RULE, 0, 0, 0).act(RULE, 0, 0, 0).find(0).act(RULE, 0, 100, 10);
        unequal.due(0, "fault", 0).due(2, "about", 0, FINDING).due(2, "remedy", 0, 50).due(50, "remedied", 0);
    }

    private static void lastDay() {
        new Run().pass(4900).due(5000, "pass", 100).refused(STATE, "pass", 1).refused(STATE, "pass", 100);
        new Run().pass(4901).refused(STATE, "pass", 100).due(5000, "pass", 99);
        new Run().pass(4999).refused(STATE, "pass", 2).refused(ARGUMENT, "pass", 0).due(5000, "pass", 1);

        // No day of the refused ones goes by: not for the clock of a complaint, nor for a file that is owed.
        Run run = offices(1).pass(4930).act(RULE, 0, 0, 0).act(RULE, 0, 0, 0).pleas(0, 2).pass(10);
        run.call("complain", 0, 0).call("complain", 0, 1).call("ask", 1).pass(59).refused(STATE, "pass", 2);
        run.due(1, "about", 0, DAYS_LEFT).due(OPEN, "about", 0, STATE_OF).due(5000, "pass", 1);
        run.due(LAPSED, "about", 0, STATE_OF).refused(STATE, "pass", 1).due(60, "answer", 1);
        run.due(60, "about", 1, DAYS_LEFT);
    }
}
