/** Promises 10 to 18: plea, bar, complain, ask, answer, hear, find, remedy, pass. */
public final class ComplaintsTest {
    private static final int NONE = Grievancehall.NONE;

    public static void main(String[] args) {
        plea();
        bar();
        barByTime();
        complain();
        complainJoins();
        complainSixteen();
        ask();
        answer();
        hear();
        find();
        findForGood();
        remedy();
        remedyOfLikes();
        remedyInPlace();
        pass();
        passClocks();
        Check.end();
    }

    private static void plea() {
        Grievancehall hall = Halls.withAct(0);
        Check.outOfBounds("10: person 10", () -> hall.plea(10, 0));
        Check.outOfBounds("10: person -1", () -> hall.plea(-1, 0));
        Check.outOfBounds("10: act 1", () -> hall.plea(0, 1));
        Check.outOfBounds("10: act -1", () -> hall.plea(0, -1));
        hall.plea(9, 0);
        hall.pass(4);
        Check.badState("10: once", () -> hall.plea(9, 0));
        Check.outOfBounds("10: the index is named first", () -> hall.plea(9, 1));
        hall.pass(6);
        Check.due("10: a refused plea leaves the day", hall.bar(9, 0), 0);
        Check.badState("10: once for good", () -> hall.plea(9, 0));
        Check.due("10: not of another person", hall.bar(8, 0), 1);
        Halls.act(hall, Halls.RULE, 0, 0, 0);
        Check.due("10: not of another act", hall.bar(9, 1), 1);
        hall.plea(9, 1);
        hall.plea(8, 0);
        hall.pass(10);
        Check.due("10: another act", hall.bar(9, 1), 0);
        Check.due("10: another person", hall.bar(8, 0), 0);
    }

    private static void bar() {
        Grievancehall hall = Halls.withAct(0);
        Check.outOfBounds("11: person 10", () -> hall.bar(10, 0));
        Check.outOfBounds("11: person -1", () -> hall.bar(-1, 0));
        Check.outOfBounds("11: act 1", () -> hall.bar(0, 1));
        Check.outOfBounds("11: act -1", () -> hall.bar(0, -1));
        Check.due("11: no plea", hall.bar(0, 0), 1);
        hall.pass(1);
        hall.plea(0, 0);
        Check.due("11: plea of today", hall.bar(0, 0), 1);
        hall.pass(9);
        Check.due("11: plea of nine days", hall.bar(0, 0), 1);
        hall.court(0, true);
        Check.due("11: the plea is ahead of the court", hall.bar(0, 0), 1);
        hall.pass(1);
        Check.due("11: in court", hall.bar(0, 0), 2);
        hall.court(0, false);
        Check.due("11: ten days", hall.bar(0, 0), 0);
        Check.due("11: no plea of another person", hall.bar(1, 0), 1);
    }

    private static void barByTime() {
        Grievancehall hall = new Grievancehall();
        hall.office(NONE);
        hall.pass(2);
        Halls.act(hall, Halls.RULE, 0, 0, 0);
        hall.plea(0, 0);
        Halls.passAll(hall, 365);
        Check.due("11: 365 days", hall.bar(0, 0), 0);
        hall.pass(1);
        Check.due("11: 366 days", hall.bar(0, 0), 3);
        Check.due("11: the plea is ahead of the time", hall.bar(1, 0), 1);
        hall.court(0, true);
        Check.due("11: the court is ahead of the time", hall.bar(0, 0), 2);
        hall.waive(0, true);
        Check.due("11: waiving alters no court", hall.bar(0, 0), 2);
        hall.court(0, false);
        Check.due("11: waived", hall.bar(0, 0), 0);
        Check.due("11: waiving alters no plea", hall.bar(1, 0), 1);
    }

    private static void complain() {
        Grievancehall hall = Halls.withAct(0);
        Check.outOfBounds("12: person 10", () -> hall.complain(10, 0));
        Check.outOfBounds("12: person -1", () -> hall.complain(-1, 0));
        Check.outOfBounds("12: act 1", () -> hall.complain(0, 1));
        Check.outOfBounds("12: act -1", () -> hall.complain(0, -1));
        Check.badState("12: barred, no plea", () -> hall.complain(0, 0));
        hall.plea(0, 0);
        hall.pass(9);
        Check.badState("12: barred, nine days", () -> hall.complain(0, 0));
        hall.pass(1);
        hall.court(0, true);
        Check.badState("12: barred, in court", () -> hall.complain(0, 0));
        hall.court(0, false);
        Check.outOfBounds("12: refused ones are no complaints", () -> hall.about(0, 0));
        Halls.passAll(hall, 356);
        Check.badState("12: barred, too late", () -> hall.complain(0, 0));
        hall.waive(0, true);
        Check.due("12: a complaint", hall.complain(0, 0), 0);
        Check.due("12: is OPEN", hall.about(0, 0), Grievancehall.OPEN);
        Check.due("12: about its act", hall.about(0, 1), 0);
        Check.due("12: has 60 days", hall.about(0, 2), 60);
        Check.due("12: of one person", hall.about(0, 3), 1);
        Check.due("12: no file is owed", hall.about(0, 4), 0);
        Check.due("12: no finding", hall.about(0, 5), NONE);
    }

    private static void complainJoins() {
        Grievancehall hall = Halls.withAct(31);
        Halls.act(hall, Halls.RULE, 0, 0, 0);
        for (int person = 0; person < 9; person++) {
            hall.plea(person, 0);
        }
        hall.plea(0, 1);
        hall.pass(10);
        Check.due("12: about another act first", hall.complain(0, 1), 0);
        Check.due("12: the complaint", hall.complain(0, 0), 1);
        hall.pass(5);
        hall.ask(1);
        hall.pass(3);
        Check.due("12: once more", hall.complain(0, 0), 1);
        Check.due("12: that alters nothing of the people", hall.about(1, 3), 1);
        Check.due("12: joins", hall.complain(1, 0), 1);
        Check.due("12: two people", hall.about(1, 3), 2);
        Check.due("12: one person complains of the other act", hall.about(0, 3), 1);
        Check.due("12: the days stay", hall.about(1, 2), 55);
        Check.due("12: the file stays owed", hall.about(1, 4), 1);
        Check.due("12: it was owed since then", hall.answer(1), 3);
        Check.badState("12: to join is barred too", () -> hall.complain(9, 0));
        hall.court(0, true);
        Check.badState("12: barred also for who complained", () -> hall.complain(0, 0));
        Check.badState("12: to join is barred by the court", () -> hall.complain(2, 0));
        hall.court(0, false);
        Check.due("12: refused ones are not among the people", hall.about(1, 3), 2);
        hall.hear(1);
        hall.find(1);
        Check.due("12: joins one that is FOUND", hall.complain(8, 0), 1);
        Check.due("12: which stays FOUND", hall.about(1, 0), Grievancehall.FOUND);
        Check.due("12: three people", hall.about(1, 3), 3);
        hall.pass(60);
        Check.due("12: the other one has LAPSED", hall.about(0, 0), Grievancehall.LAPSED);
        Check.due("12: so there is a new one", hall.complain(0, 1), 2);
        Check.due("12: of one person", hall.about(2, 3), 1);
        Check.due("12: the FOUND one is still joined", hall.complain(2, 0), 1);
        Check.due("12: the LAPSED one keeps its people", hall.about(0, 3), 1);
    }

    private static void complainSixteen() {
        Grievancehall hall = new Grievancehall();
        hall.office(NONE);
        for (int act = 0; act < 17; act++) {
            Halls.act(hall, Halls.DELAY, 0, 0, 0);
            hall.plea(3, act);
            hall.plea(4, act);
        }
        hall.pass(10);
        for (int act = 0; act < 16; act++) {
            Check.due("12: complaint " + act, hall.complain(3, act), act);
        }
        Check.badState("12: a seventeenth", () -> hall.complain(3, 16));
        Check.due("12: but one can be joined", hall.complain(4, 15), 15);
        Check.outOfBounds("12: the index is named first", () -> hall.complain(3, 17));
        Check.outOfBounds("12: there is no complaint 16", () -> hall.about(16, 0));
        hall.pass(60);
        Check.badState("12: LAPSED ones count, and can't be joined", () -> hall.complain(4, 15));
        Check.badState("12: barred and too many", () -> hall.complain(5, 16));
    }

    private static void ask() {
        Grievancehall hall = Halls.withComplaint(0);
        Check.outOfBounds("13: complaint 1", () -> hall.ask(1));
        Check.outOfBounds("13: complaint -1", () -> hall.ask(-1));
        Check.due("13: of which office", hall.ask(0), 0);
        Check.due("13: owed", hall.about(0, 4), 1);
        hall.pass(2);
        Check.badState("13: once", () -> hall.ask(0));
        Check.due("13: a refused call leaves the day", hall.answer(0), 2);
        Check.badState("13: once, also when answered", () -> hall.ask(0));
        Check.due("13: not owed again", hall.about(0, 4), 0);

        Grievancehall lapsed = Halls.withComplaint(0);
        lapsed.pass(60);
        Check.badState("13: LAPSED", () -> lapsed.ask(0));
        Check.due("13: not owed", lapsed.about(0, 4), 0);
    }

    private static void answer() {
        Grievancehall hall = Halls.withComplaint(0);
        Check.outOfBounds("14: complaint 1", () -> hall.answer(1));
        Check.outOfBounds("14: complaint -1", () -> hall.answer(-1));
        Check.badState("14: not asked for", () -> hall.answer(0));
        hall.ask(0);
        hall.pass(100);
        hall.pass(33);
        Check.due("14: for how many days", hall.answer(0), 133);
        Check.badState("14: not owed any more", () -> hall.answer(0));

        Grievancehall same = Halls.withComplaint(0);
        same.ask(0);
        Check.due("14: on the same day", same.answer(0), 0);
        same.pass(60);
        Check.badState("14: LAPSED, and not owed", () -> same.answer(0));
    }

    private static void hear() {
        Grievancehall hall = Halls.withComplaint(0);
        Check.outOfBounds("15: complaint 1", () -> hall.hear(1));
        Check.outOfBounds("15: complaint -1", () -> hall.hear(-1));
        Check.badState("15: not asked for", () -> hall.hear(0));
        hall.ask(0);
        Check.badState("15: not answered", () -> hall.hear(0));
        Check.badState("15: refused ones are not heard", () -> hall.find(0));
        hall.answer(0);
        Check.badState("15: still not heard", () -> hall.find(0));
        hall.hear(0);
        Check.badState("15: once", () -> hall.hear(0));
        hall.find(0);
        Check.badState("15: FOUND", () -> hall.hear(0));

        Grievancehall lapsed = Halls.withComplaint(0);
        lapsed.ask(0);
        lapsed.answer(0);
        lapsed.pass(60);
        Check.badState("15: LAPSED", () -> lapsed.hear(0));
    }

    private static void find() {
        Grievancehall hall = new Grievancehall();
        hall.office(NONE);
        int[] measures = {30, 31, 5, 90, 25};
        int[] kinds = {Halls.DELAY, Halls.DELAY, Halls.RULE, Halls.RULE, Halls.RULE};
        for (int i = 0; i < measures.length; i++) {
            Halls.act(hall, kinds[i], 0, measures[i], 0);
            hall.plea(0, i);
        }
        hall.limit(Halls.RULE, 100);
        hall.pass(10);
        int[] due = {0, 1, 0, 2, 0};
        for (int i = 0; i < measures.length; i++) {
            hall.complain(0, i);
            int complaint = i;
            Check.badState("16: not heard", () -> hall.find(complaint));
            Check.due("16: finding " + i, Halls.findAll(hall, i), due[i]);
            Check.due("16: is FOUND", hall.about(i, 0), Grievancehall.FOUND);
            Check.due("16: is told", hall.about(i, 5), due[i]);
            Check.badState("16: once", () -> hall.find(complaint));
        }
        Check.outOfBounds("16: complaint 5", () -> hall.find(5));
        Check.outOfBounds("16: complaint -1", () -> hall.find(-1));

        Grievancehall lapsed = Halls.withComplaint(0);
        lapsed.ask(0);
        lapsed.answer(0);
        lapsed.hear(0);
        lapsed.pass(60);
        Check.badState("16: LAPSED", () -> lapsed.find(0));
        Check.due("16: no finding", lapsed.about(0, 5), NONE);
    }

    private static void findForGood() {
        Grievancehall hall = Halls.withComplaint(31);
        Check.due("16: fails the rule", Halls.findAll(hall, 0), 1);
        Halls.act(hall, Halls.RULE, 0, 0, 0);
        Halls.act(hall, Halls.RULE, 0, 0, 0);
        Check.due("16: the fault would be another one now", hall.fault(0), 3);
        Check.due("16: the finding is for good", hall.about(0, 5), 1);
        Halls.passAll(hall, 200);
        Check.due("16: FOUND for good", hall.about(0, 0), Grievancehall.FOUND);
        Check.due("16: its clock stands", hall.about(0, 2), 60);

        Grievancehall both = Halls.withComplaint(31);
        Halls.act(both, Halls.RULE, 0, 0, 0);
        Halls.act(both, Halls.RULE, 0, 0, 0);
        Check.due("16: acts told by then count", Halls.findAll(both, 0), 3);
    }

    private static void remedy() {
        Grievancehall hall = Halls.withComplaint(31);
        Check.outOfBounds("17: complaint 1", () -> hall.remedy(1, 1));
        Check.outOfBounds("17: complaint -1", () -> hall.remedy(-1, 1));
        Check.outOfBounds("17: the index is named first", () -> hall.remedy(1, 101));
        Check.badArgument("17: percent 101", () -> hall.remedy(0, 101));
        Check.badArgument("17: percent -1", () -> hall.remedy(0, -1));
        Check.badState("17: OPEN", () -> hall.remedy(0, 1));
        Check.due("17: refused ones give nothing", hall.remedied(0), NONE);
        Halls.findAll(hall, 0);
        Check.badArgument("17: percent 101", () -> hall.remedy(0, 101));
        Check.due("17: of nothing", hall.remedy(0, 0), 1);
        Check.due("17: a remedy of nothing", hall.remedied(0), 0);
        Check.due("17: of all", hall.remedy(0, 100), 1);
        Check.due("17: all", hall.remedied(0), 100);

        Grievancehall faultless = Halls.withComplaint(30);
        Check.due("17: no fault", Halls.findAll(faultless, 0), 0);
        Halls.act(faultless, Halls.RULE, 0, 0, 0);
        Halls.act(faultless, Halls.RULE, 0, 0, 0);
        Check.due("17: there is a fault now", faultless.fault(0), 2);
        Check.badState("17: FOUND with no fault", () -> faultless.remedy(0, 10));
        Check.badArgument("17: the argument is named ahead of the state", () -> faultless.remedy(0, 101));
        Check.due("17: none", faultless.remedied(0), NONE);

        Grievancehall lapsed = Halls.withComplaint(31);
        lapsed.pass(60);
        Check.badState("17: LAPSED", () -> lapsed.remedy(0, 10));
    }

    private static void remedyOfLikes() {
        Grievancehall hall = new Grievancehall();
        hall.office(NONE);
        hall.office(0);
        Halls.act(hall, Halls.RULE, 1, 31, 199);
        hall.plea(0, 0);
        hall.pass(10);
        hall.complain(0, 0);
        Halls.findAll(hall, 0);
        hall.limit(Halls.RULE, 100);
        Halls.act(hall, Halls.RULE, 1, 1, 77);
        Halls.act(hall, Halls.RULE, 1, 93, 1000);
        hall.limit(Halls.DELAY, 0);
        Halls.act(hall, Halls.DELAY, 1, 99, 500);
        Halls.act(hall, Halls.RULE, 0, 99, 500);
        hall.pass(1);
        hall.limit(Halls.RULE, 2);
        Halls.act(hall, Halls.RULE, 1, 3, 7);
        // Acts 0, 1, 2 and 5 are likes: act 2 is unequal, act 5 fails the rule of its day, act 1 has no fault.
        Check.due("17: fault of the act", hall.fault(0), 1);
        Check.due("17: fault of act 1", hall.fault(1), 0);
        Check.due("17: fault of act 2", hall.fault(2), 2);
        Check.due("17: fault of act 5", hall.fault(5), 1);
        Check.due("17: how many acts", hall.remedy(0, 33), 3);
        int[] due = {65, NONE, 330, NONE, NONE, 2};
        for (int i = 0; i < due.length; i++) {
            Check.due("17: remedy of act " + i, hall.remedied(i), due[i]);
        }
    }

    private static void remedyInPlace() {
        Grievancehall hall = new Grievancehall();
        hall.office(NONE);
        Halls.act(hall, Halls.RULE, 0, 31, 200);
        Halls.act(hall, Halls.RULE, 0, 41, 100);
        hall.plea(0, 0);
        hall.plea(0, 1);
        hall.limit(Halls.RULE, 30);
        hall.pass(10);
        hall.complain(0, 0);
        hall.complain(0, 1);
        Check.due("17: finding", Halls.findAll(hall, 0), 1);
        Check.due("17: both fail", hall.remedy(0, 50), 2);
        Check.due("17: half of it", hall.remedied(0), 100);
        Check.due("17: half of the other", hall.remedied(1), 50);
        Check.due("17: in place of it", hall.remedy(0, 20), 2);
        Check.due("17: a fifth", hall.remedied(0), 40);
        Check.due("17: a fifth of the other", hall.remedied(1), 20);
        Check.badState("17: the other complaint is OPEN", () -> hall.remedy(1, 99));

        // The limit of today makes the like faultless, but the complaint was FOUND: its own act is for in any case.
        Grievancehall kept = new Grievancehall();
        kept.office(NONE);
        kept.pass(1);
        int late = Halls.act(kept, Halls.RULE, 0, 50, 10);
        kept.plea(0, late);
        kept.pass(10);
        Halls.act(kept, Halls.RULE, 0, 60, 10);
        kept.complain(0, 0);
        Halls.findAll(kept, 0);
        Check.due("17: both", kept.remedy(0, 100), 2);
        kept.limit(Halls.RULE, 70);
        Check.due("17: the like has no fault now", kept.fault(1), 0);
        Check.due("17: the act alone", kept.remedy(0, 10), 1);
        Check.due("17: in place of one before", kept.remedied(0), 1);
        Check.due("17: the like keeps its own", kept.remedied(1), 10);

        Grievancehall any = Halls.withAct(31);
        any.plea(0, 0);
        any.pass(10);
        any.complain(0, 0);
        Halls.act(any, Halls.RULE, 0, 0, 3);
        Halls.act(any, Halls.RULE, 0, 16, 3);
        any.limit(Halls.RULE, 15);
        Check.due("17: finding", Halls.findAll(any, 0), 3);
        Check.due("17: the act and a like", any.remedy(0, 99), 2);
        Check.due("17: the like, rounded down", any.remedied(2), 2);
    }

    private static void pass() {
        Grievancehall hall = new Grievancehall();
        Check.badArgument("18: 0", () -> hall.pass(0));
        Check.badArgument("18: -1", () -> hall.pass(-1));
        Check.badArgument("18: 101", () -> hall.pass(101));
        Check.badArgument("18: the most", () -> hall.pass(Integer.MAX_VALUE));
        Check.badArgument("18: the least", () -> hall.pass(Integer.MIN_VALUE));
        Check.due("18: one", hall.pass(1), 1);
        Check.due("18: hundred", hall.pass(100), 101);
        Halls.passAll(hall, 4859);
        Check.badState("18: above 5000", () -> hall.pass(41));
        Check.badState("18: far above 5000", () -> hall.pass(100));
        Check.badArgument("18: the argument is named first", () -> hall.pass(101));
        Check.due("18: to 5000", hall.pass(40), 5000);
        Check.badState("18: above 5000", () -> hall.pass(1));
        hall.office(NONE);
        Check.due("18: that is today", hall.whose(0, 5000), 0);
        Check.badArgument("18: and no day more", () -> hall.whose(0, 5001));
    }

    private static void passClocks() {
        Grievancehall hall = Halls.withComplaint(31);
        hall.pass(20);
        Check.due("18: a day takes one", hall.about(0, 2), 40);
        hall.ask(0);
        hall.pass(100);
        Check.due("18: not while a file is owed", hall.about(0, 2), 40);
        Check.due("18: still OPEN", hall.about(0, 0), Grievancehall.OPEN);
        hall.answer(0);
        hall.pass(39);
        Check.due("18: takes one again", hall.about(0, 2), 1);
        Check.due("18: still OPEN", hall.about(0, 0), Grievancehall.OPEN);
        Check.badArgument("18: refused days do not go by", () -> hall.pass(0));
        Check.due("18: so one day is left", hall.about(0, 2), 1);
        hall.pass(1);
        Check.due("18: none is left", hall.about(0, 2), 0);
        Check.due("18: LAPSED", hall.about(0, 0), Grievancehall.LAPSED);
        hall.pass(100);
        Check.due("18: never below none", hall.about(0, 2), 0);
        Check.due("18: LAPSED for good", hall.about(0, 0), Grievancehall.LAPSED);

        Grievancehall far = Halls.withComplaint(31);
        far.pass(100);
        Check.due("18: more days than it has", far.about(0, 2), 0);
        Check.due("18: LAPSED", far.about(0, 0), Grievancehall.LAPSED);

        Grievancehall found = Halls.withComplaint(31);
        found.pass(59);
        Halls.findAll(found, 0);
        found.pass(100);
        Check.due("18: not when it is FOUND", found.about(0, 2), 1);
        Check.due("18: FOUND", found.about(0, 0), Grievancehall.FOUND);

        Grievancehall end = Halls.withAct(0);
        end.plea(0, 0);
        Halls.passAll(end, 4950);
        end.waive(0, true);
        end.complain(0, 0);
        Check.badState("18: above 5000", () -> end.pass(51));
        Check.due("18: refused days take nothing", end.about(0, 2), 60);
    }
}
