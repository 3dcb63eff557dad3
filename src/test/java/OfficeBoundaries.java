/** Promises 1 to 6: a new object, letter, office, delegate, whose, limit. */
final class OfficeBoundaries extends Boundaries {
    private OfficeBoundaries() {
    }

    static void all() {
        Sentences.heading("Promise 1");
        Sentences.test("Begins on the day 0, without offices and acts.", OfficeBoundaries::newObject);
        letter();
        office();
        delegate();
        whose();
        limit();
    }

    private static void letter() {
        Sentences.heading("Promise 2");
        Sentences.test("Adds a letter to the word that is typed.", OfficeBoundaries::letterAdds);
        Sentences.test("letter: a to z", OfficeBoundaries::letterRange);
        Sentences.test("Returns how many it has then.", OfficeBoundaries::letterCount);
        Sentences.test("Throws IllegalArgumentException if letter is none of these", OfficeBoundaries::letterOfNone);
        Sentences.test("Throws IllegalStateException if it has 7", OfficeBoundaries::letterFull);
    }

    private static void office() {
        Sentences.heading("Promise 3");
        Sentences.test("Tells an office.", () -> new Run().refused(INDEX, "whose", 0, 0).call("office", NONE)
            .due(0, "whose", 0, 0).refused(INDEX, "whose", 1, 0));
        Sentences.test("above: the office above it, or NONE", OfficeBoundaries::officeAbove);
        Sentences.test("Returns its number.", OfficeBoundaries::officeNumber);
        Sentences.test("Throws IndexOutOfBoundsException as told", OfficeBoundaries::officeNoSuch);
        Sentences.test("Throws IllegalStateException if there are 10", OfficeBoundaries::officeFull);
    }

    private static void delegate() {
        Sentences.heading("Promise 4");
        Sentences.test("Lets another office act for one from today on.", () -> offices(2).pass(1)
            .call("delegate", 0, 1).due(0, "whose", 0, 0).due(1, "whose", 0, 1).due(1, "whose", 1, 1)
            .pass(100).due(1, "whose", 0, 101).due(1, "whose", 0, 1));
        Sentences.test("to: the other one, or NONE: it acts itself", () -> offices(3).call("delegate", 2, 0)
            .due(0, "whose", 2, 0).call("delegate", 2, 1).due(1, "whose", 2, 0).call("delegate", 2, NONE)
            .due(2, "whose", 2, 0).refused(INDEX, "delegate", 2, 3).refused(INDEX, "delegate", 2, -2));
        Sentences.test("Returns the one that acted for it on this day ahead of this call, since whichever day; NONE.",
            OfficeBoundaries::delegateBefore);
        Sentences.test("Throws IndexOutOfBoundsException as told, of both", OfficeBoundaries::delegateNoSuch);
        Sentences.test("Throws IllegalArgumentException if both are the same", OfficeBoundaries::delegateSame);
    }

    private static void whose() {
        Sentences.heading("Promise 5");
        Sentences.test("Returns whose act one of an office would be on a day.", OfficeBoundaries::whoseOnDays);
        Sentences.test("day: 0 to today", () -> offices(1).due(0, "whose", 0, 0).pass(100).due(0, "whose", 0, 0)
            .due(0, "whose", 0, 100).pass(4900).due(0, "whose", 0, 0).due(0, "whose", 0, 5000));
        Sentences.test("Throws IndexOutOfBoundsException as told, of the office", () -> {
            eachRefused(offices(1).due(0, "whose", 0, 0), INDEX, noNumber(1), 0, "whose", 0, 0);
            eachRefused(offices(10).due(9, "whose", 9, 0), INDEX, noNumber(10), 0, "whose", 0, 0);
            offices(2).refused(INDEX, "whose", 2, 1).refused(INDEX, "whose", -1, -1);
        });
        Sentences.test("Throws IllegalArgumentException if day is out of range", () -> {
            eachRefused(offices(1), ARGUMENT, outside(0, 0), 1, "whose", 0, 0);
            eachRefused(offices(2).pass(7).call("delegate", 0, 1), ARGUMENT, outside(0, 7), 1, "whose", 0, 0);
            eachRefused(offices(1).pass(5000), ARGUMENT, outside(0, 5000), 1, "whose", 0, 0);
        });
    }

    private static void limit() {
        Sentences.heading("Promise 6");
        Sentences.test("Tells a limit from today on.", OfficeBoundaries::limitFromToday);
        Sentences.test("kind: 0 to 3", () -> new Run().due(30, "limit", 0, 1).due(30, "limit", 3, 2)
            .due(30, "limit", 1, 3).due(30, "limit", 2, 4).due(1, "limit", 0, 0).due(2, "limit", 3, 0)
            .due(3, "limit", 1, 0).due(4, "limit", 2, 0));
        Sentences.test("limit: 0 to 100", () -> new Run().call("limit", RULE, 0).due(0, "limit", RULE, 100)
            .due(100, "limit", RULE, 1).due(1, "limit", RULE, 99).due(99, "limit", RULE, 99));
        Sentences.test("Returns the one on this day ahead of this call, since whichever day.",
            () -> new Run().due(30, "limit", RULE, 40).due(40, "limit", RULE, 50).pass(1).due(50, "limit", RULE, 60)
                .pass(300).due(60, "limit", RULE, 60).due(30, "limit", DELAY, 1).due(60, "limit", RULE, 0));
        Sentences.test("Throws IndexOutOfBoundsException as told, of the kind", () -> {
            Run run = oneAct(31).call("limit", RULE, 50);
            eachRefused(run, INDEX, noNumber(4), 0, "limit", 0, 0);
            run.refused(INDEX, "limit", 4, 101).refused(INDEX, "limit", -1, -1).due(50, "limit", RULE, 0);
        });
        Sentences.test("Throws IllegalArgumentException if limit is out of range", () -> {
            Run run = oneAct(31).call("limit", RULE, 50);
            eachRefused(run, ARGUMENT, outside(0, 100), 1, "limit", RULE, 0);
            eachRefused(run, ARGUMENT, outside(0, 100), 1, "limit", DELAY, 0);
            run.due(50, "limit", RULE, 0).due(30, "limit", DELAY, 0);
        });
    }

    private static void newObject() {
        Run run = new Run().refused(INDEX, "whose", 0, 0).refused(INDEX, "fault", 0).refused(INDEX, "about", 0, 0);
        run.refused(INDEX, "office", 0).refused(INDEX, "delegate", 0, NONE).refused(INDEX, "act", 0, 0, 0);
        run.refused(INDEX, "court", 0, 1).refused(INDEX, "waive", 0, 1).refused(INDEX, "plea", 0, 0);
        run.refused(INDEX, "bar", 0, 0).refused(INDEX, "complain", 0, 0).refused(INDEX, "likes", 0);
        run.refused(INDEX, "remedied", 0).refused(INDEX, "ask", 0).refused(INDEX, "remedy", 0, 0);
        run.due(0, "gains", RULE, 0).due(1, "letter", 'a').due(0, "office", NONE).due(1, "pass", 1);
        new Run().pass(4999).due(5000, "pass", 1);
        Run day = new Run().pass(4900);
        day.refused(ARGUMENT, "pass", 101).due(5000, "pass", 100).refused(STATE, "pass", 1);
    }

    private static void letterAdds() {
        offices(1).type("rul").due(4, "letter", 'e').due(0, "act", 0, 31, 0).due(-1, "gains", RULE, 100);
        offices(1).type("rule").due(5, "letter", 'r').due(NONE, "act", 0, 31, 0);
        offices(1).type("promis").due(7, "letter", 'e').due(0, "act", 0, 31, 0).due(-1, "gains", PROMISE, 100);
        offices(1).type("promis").due(7, "letter", 'd').due(NONE, "act", 0, 31, 0);
    }

    private static void letterRange() {
        for (int from = 'a'; from <= 'z'; from++) {
            new Run().due(1, "letter", from).due(2, "letter", 'a' + 'z' - from);
        }
        new Run().refused(ARGUMENT, "letter", 'a' - 1).refused(ARGUMENT, "letter", 'z' + 1).due(1, "letter", 'a');
    }

    private static void letterCount() {
        Run run = offices(1);
        for (int i = 1; i <= 7; i++) {
            run.due(i, "letter", 'a' + i);
        }
        run.due(NONE, "act", 0, 0, 0).due(1, "letter", 'a').due(2, "letter", 'a');
    }

    private static void letterOfNone() {
        int[] others = {0, 1, ' ', '0', 'A', 'Z', 'a' - 1, 'z' + 1, 127, 'a' + 128, 'z' + 128, 'a' + 256, 'z' + 256,
            'e' - 32, 0x7fff, 0x8000, 0xff61, 0xffff};
        Run run = offices(1).type("rul");
        for (int each : others) {
            new Run().refused(ARGUMENT, "letter", each).due(1, "letter", 'a');
            run.refused(ARGUMENT, "letter", each);
        }
        run.due(4, "letter", 'e').due(0, "act", 0, 0, 0);
    }

    private static void letterFull() {
        Run run = offices(1).type("promis").due(7, "letter", 'e').refused(STATE, "letter", 'a');
        run.refused(STATE, "letter", 'z').refused(ARGUMENT, "letter", 'a' - 1).due(0, "act", 0, 0, 0);
        run.due(1, "letter", 'p');
        Run other = offices(1).type("aaaaaaa").refused(STATE, "letter", 'a').due(NONE, "act", 0, 0, 0);
        other.due(1, "letter", 'p');
    }

    private static void officeAbove() {
        Run run = new Run().due(0, "office", NONE).due(1, "office", 0).due(2, "office", 1).due(3, "office", 0);
        run.call("delegate", 0, 2).act(RULE, 0, 0, 0).act(RULE, 3, 0, 0).pleas(0, 2).pass(10);
        run.call("complain", 0, 0).call("complain", 0, 1).due(2, "ask", 0).due(3, "ask", 1);
        run.pass(10).due(1, "reminder", 0).due(0, "reminder", 1).pass(10).due(0, "reminder", 0).due(0, "reminder", 1);
    }

    private static void officeNumber() {
        Run run = new Run();
        for (int i = 0; i < 10; i++) {
            run.due(i, "office", i == 0 ? NONE : i - 1);
        }
    }

    private static void officeNoSuch() {
        for (int count : new int[] {0, 1, 9}) {
            eachRefused(offices(count), INDEX, noNumberNorNone(count), 0, "office", 0);
        }
        eachRefused(offices(10), INDEX, noNumberNorNone(10), 0, "office", 0);
        offices(1).refused(INDEX, "office", 1).due(1, "office", 0).due(2, "office", 1);
    }

    private static void officeFull() {
        Run run = offices(9).due(9, "office", 8).refused(STATE, "office", NONE).refused(STATE, "office", 0);
        run.refused(STATE, "office", 9).refused(INDEX, "office", 10).due(9, "whose", 9, 0);
        run.refused(INDEX, "whose", 10, 0);
    }

    private static void delegateBefore() {
        Run run = offices(3).due(NONE, "delegate", 0, 1).due(1, "delegate", 0, 1).due(1, "delegate", 0, 2);
        run.pass(1).due(2, "delegate", 0, NONE).due(NONE, "delegate", 0, 1).pass(100).due(1, "delegate", 0, NONE);
        run.pass(1).due(NONE, "delegate", 0, NONE);
        // The one that it let act, not who acts for that one.
        Run row = offices(3).due(NONE, "delegate", 0, 1).due(NONE, "delegate", 1, 2).due(1, "delegate", 0, 2);
        row.due(2, "delegate", 1, 0).due(2, "delegate", 0, NONE);
    }

    private static void delegateNoSuch() {
        for (int count : new int[] {2, 10}) {
            Run run = offices(count).call("delegate", 0, count - 1).call("delegate", count - 1, 0);
            eachRefused(run, INDEX, noNumber(count), 0, "delegate", 0, 0);
            eachRefused(run, INDEX, noNumber(count), 0, "delegate", 0, NONE);
            eachRefused(run, INDEX, noNumberNorNone(count), 1, "delegate", 0, 0);
        }
        new Run().refused(INDEX, "delegate", 0, NONE);
    }

    private static void delegateSame() {
        Run run = offices(10).call("delegate", 0, 3);
        for (int office = 0; office < 10; office++) {
            run.refused(ARGUMENT, "delegate", office, office);
        }
        run.refused(INDEX, "delegate", 10, 10).refused(INDEX, "delegate", NONE, NONE).due(3, "delegate", 0, 1);
    }

    private static void whoseOnDays() {
        Run run = offices(3).pass(2).call("delegate", 0, 1).pass(2).call("delegate", 1, 2).pass(2);
        run.call("delegate", 0, NONE).unaltered(0, "whose", 0, 1).unaltered(1, "whose", 0, 2).due(1, "whose", 0, 3);
        run.due(2, "whose", 0, 4).due(2, "whose", 0, 5).due(0, "whose", 0, 6).due(2, "whose", 1, 6);
        run.due(1, "whose", 1, 3).due(2, "whose", 2, 6);
    }

    private static void limitFromToday() {
        Run run = offices(1).pass(1).act(RULE, 0, 25, 0).pass(1).call("limit", RULE, 24).act(RULE, 0, 25, 0);
        run.act(RULE, 0, 24, 0).pass(1).act(RULE, 0, 25, 0).due(0, "fault", 0).due(1, "fault", 1).due(0, "fault", 2);
        run.due(1, "fault", 3).act(DELAY, 0, 30, 0).due(0, "fault", 4);
    }
}
