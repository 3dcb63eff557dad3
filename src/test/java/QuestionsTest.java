/** Promises 19 to 24: about, reminder, fault, likes, remedied, gains. */
public final class QuestionsTest {
    private static final int NONE = Grievancehall.NONE;

    public static void main(String[] args) {
        about();
        reminder();
        reminderOfTree();
        faultOfRule();
        faultOfLikes();
        faultWithoutComplaint();
        likes();
        remedied();
        gains();
        gainsOfDays();
        allActs();
        Check.end();
    }

    private static void about() {
        Grievancehall hall = new Grievancehall();
        Check.outOfBounds("19: no complaint", () -> hall.about(0, 0));
        hall.office(NONE);
        for (int i = 0; i < 3; i++) {
            Halls.act(hall, Halls.ANSWER, 0, 31 * i, 0);
            hall.plea(i, i);
            hall.plea(9, i);
        }
        hall.pass(10);
        hall.complain(2, 2);
        hall.complain(9, 2);
        hall.complain(1, 1);
        Check.outOfBounds("19: complaint 2", () -> hall.about(2, 0));
        Check.outOfBounds("19: complaint -1", () -> hall.about(-1, 0));
        Check.outOfBounds("19: the index is named first", () -> hall.about(2, 6));
        Check.badArgument("19: what 6", () -> hall.about(0, 6));
        Check.badArgument("19: what -1", () -> hall.about(0, -1));
        row(hall, 0, Grievancehall.OPEN, 2, 60, 2, 0, NONE);
        row(hall, 1, Grievancehall.OPEN, 1, 60, 1, 0, NONE);
        hall.pass(11);
        hall.ask(0);
        row(hall, 0, Grievancehall.OPEN, 2, 49, 2, 1, NONE);
        hall.pass(49);
        row(hall, 0, Grievancehall.OPEN, 2, 49, 2, 1, NONE);
        row(hall, 1, Grievancehall.LAPSED, 1, 0, 1, 0, NONE);
        hall.answer(0);
        row(hall, 0, Grievancehall.OPEN, 2, 49, 2, 0, NONE);
        hall.hear(0);
        row(hall, 0, Grievancehall.OPEN, 2, 49, 2, 0, NONE);
        hall.find(0);
        row(hall, 0, Grievancehall.FOUND, 2, 49, 2, 0, 3);
    }

    private static void row(Grievancehall hall, int complaint, int... due) {
        for (int what = 0; what < due.length; what++) {
            Check.due("19: about " + complaint + ", " + what, hall.about(complaint, what), due[what]);
        }
    }

    private static void reminder() {
        Grievancehall hall = Halls.withComplaint(0);
        Check.outOfBounds("20: complaint 1", () -> hall.reminder(1));
        Check.outOfBounds("20: complaint -1", () -> hall.reminder(-1));
        Check.due("20: not asked for", hall.reminder(0), NONE);
        hall.ask(0);
        Check.due("20: none above", hall.reminder(0), 0);
        hall.pass(100);
        Check.due("20: none above after 100 days", hall.reminder(0), 0);
        hall.answer(0);
        Check.due("20: answered", hall.reminder(0), NONE);
    }

    private static void reminderOfTree() {
        Grievancehall hall = new Grievancehall();
        int[] above = {NONE, 0, NONE, 1, 3, 4, 2};
        for (int i = 0; i < above.length; i++) {
            Check.due("20: office", hall.office(above[i]), i);
        }
        hall.delegate(6, 5);
        Halls.act(hall, Halls.DELAY, 6, 0, 0);
        Halls.act(hall, Halls.DELAY, 2, 0, 0);
        hall.plea(0, 0);
        hall.plea(0, 1);
        hall.pass(10);
        hall.complain(0, 0);
        hall.complain(0, 1);
        hall.pass(7);
        Check.due("20: the office that acted", hall.ask(0), 5);
        Check.due("20: another one", hall.ask(1), 2);
        // Who acts now alters nothing of where the reminder goes.
        hall.delegate(5, 6);
        hall.delegate(4, 6);
        int[] due = {5, 4, 3, 1, 0, 0, 0};
        for (int i = 0; i < due.length; i++) {
            Check.due("20: on the day " + i * 10, hall.reminder(0), due[i]);
            hall.pass(9);
            Check.due("20: nine days later", hall.reminder(0), due[i]);
            Check.due("20: of the other one", hall.reminder(1), 2);
            hall.pass(1);
        }
    }

    private static void faultOfRule() {
        Grievancehall hall = new Grievancehall();
        Check.outOfBounds("21: no act", () -> hall.fault(0));
        hall.office(NONE);
        hall.limit(Halls.PROMISE, 0);
        Halls.act(hall, Halls.PROMISE, 0, 0, 0);
        Halls.act(hall, Halls.PROMISE, 0, 1, 0);
        Check.outOfBounds("21: act 2", () -> hall.fault(2));
        Check.outOfBounds("21: act -1", () -> hall.fault(-1));
        Check.due("21: at the limit", hall.fault(0), 0);
        Check.due("21: above the limit", hall.fault(1), 1);
        hall.limit(Halls.PROMISE, 1);
        Check.due("21: now at the limit", hall.fault(1), 0);
    }

    private static void faultOfLikes() {
        Grievancehall hall = new Grievancehall();
        hall.office(NONE);
        hall.limit(Halls.RULE, 100);
        Halls.act(hall, Halls.RULE, 0, 51, 0);
        Check.due("21: without likes", hall.fault(0), 0);
        Halls.act(hall, Halls.RULE, 0, 25, 0);
        Check.due("21: one like is too few", hall.fault(0), 0);
        Halls.act(hall, Halls.RULE, 0, 26, 0);
        // The mean of 25 and 26 is rounded down ahead of being doubled: 51 is above 50, though not above 51.
        Check.due("21: above twice the mean, rounded down", hall.fault(0), 2);
        Halls.act(hall, Halls.RULE, 0, 27, 0);
        Check.due("21: not above twice 26", hall.fault(0), 0);
        Halls.act(hall, Halls.RULE, 0, 22, 0);
        Check.due("21: twice 25", hall.fault(0), 2);

        Grievancehall edge = new Grievancehall();
        edge.office(NONE);
        edge.limit(Halls.RULE, 100);
        Halls.act(edge, Halls.RULE, 0, 20, 0);
        Halls.act(edge, Halls.RULE, 0, 10, 0);
        Halls.act(edge, Halls.RULE, 0, 10, 0);
        Check.due("21: twice the mean is not above it", edge.fault(0), 0);
        Check.due("21: below the mean", edge.fault(1), 0);

        Grievancehall zero = new Grievancehall();
        zero.office(NONE);
        for (int i = 0; i < 3; i++) {
            Halls.act(zero, Halls.RULE, 0, i == 0 ? 1 : 0, 0);
        }
        Check.due("21: above twice nothing", zero.fault(0), 2);
        Check.due("21: nothing is not above nothing", zero.fault(1), 0);
    }

    private static void faultWithoutComplaint() {
        Grievancehall hall = Halls.withAct(90);
        Halls.act(hall, Halls.RULE, 0, 10, 0);
        Halls.act(hall, Halls.RULE, 0, 10, 0);
        Halls.act(hall, Halls.DELAY, 0, 90, 0);
        Check.due("21: both", hall.fault(0), 3);
        Check.due("21: of another kind", hall.fault(3), 1);
        hall.plea(0, 0);
        hall.pass(10);
        hall.complain(0, 0);
        Check.due("21: with a complaint", hall.fault(0), 3);
        Halls.findAll(hall, 0);
        hall.pass(1);
        Halls.act(hall, Halls.RULE, 0, 100, 0);
        Check.due("21: what it would be now", hall.fault(0), 3);
        Halls.act(hall, Halls.RULE, 0, 100, 0);
        Check.due("21: acts of later days count as likes", hall.fault(0), 1);
    }

    private static void likes() {
        Grievancehall hall = new Grievancehall();
        Check.outOfBounds("22: no act", () -> hall.likes(0));
        hall.office(NONE);
        hall.office(0);
        hall.office(0);
        Halls.act(hall, Halls.RULE, 1, 0, 0);
        Check.due("22: it is no like of itself", hall.likes(0), 0);
        Check.outOfBounds("22: act 1", () -> hall.likes(1));
        Check.outOfBounds("22: act -1", () -> hall.likes(-1));
        Halls.act(hall, Halls.ANSWER, 1, 0, 0);
        Halls.act(hall, Halls.RULE, 2, 0, 0);
        Check.due("22: not of another kind or office", hall.likes(0), 0);
        hall.delegate(2, 1);
        Halls.act(hall, Halls.RULE, 2, 0, 0);
        Check.due("22: of whose act it was", hall.likes(0), 1);
        Check.due("22: not of the one it was told of", hall.likes(2), 0);
        Check.due("22: likes are so both ways", hall.likes(3), 1);
        hall.pass(50);
        Halls.act(hall, Halls.RULE, 1, 100, 9);
        Check.due("22: of any day", hall.likes(0), 2);
        Check.due("22: of any day", hall.likes(4), 2);

        Grievancehall many = new Grievancehall();
        many.office(NONE);
        for (int i = 0; i < 24; i++) {
            Halls.act(many, Halls.RULE, 0, 0, 0);
        }
        Check.due("22: the most", many.likes(23), 23);
    }

    private static void remedied() {
        Grievancehall hall = Halls.withAct(31);
        Check.outOfBounds("23: act 1", () -> hall.remedied(1));
        Check.outOfBounds("23: act -1", () -> hall.remedied(-1));
        Check.due("23: without one", hall.remedied(0), NONE);
        Halls.act(hall, Halls.RULE, 0, 32, 1000);
        Halls.act(hall, Halls.RULE, 0, 33, 0);
        hall.plea(0, 0);
        hall.pass(10);
        hall.complain(0, 0);
        Halls.findAll(hall, 0);
        Check.due("23: a finding is no remedy", hall.remedied(0), NONE);
        hall.remedy(0, 57);
        Check.due("23: of 100", hall.remedied(0), 57);
        Check.due("23: of 1000", hall.remedied(1), 570);
        Check.due("23: of nothing", hall.remedied(2), 0);
        hall.remedy(0, 100);
        Check.due("23: all of 1000", hall.remedied(1), 1000);
    }

    private static void gains() {
        Grievancehall hall = new Grievancehall();
        Check.outOfBounds("24: kind 4", () -> hall.gains(4, 0));
        Check.outOfBounds("24: kind -1", () -> hall.gains(-1, 0));
        Check.outOfBounds("24: the index is named first", () -> hall.gains(4, 101));
        Check.badArgument("24: limit 101", () -> hall.gains(3, 101));
        Check.badArgument("24: limit -1", () -> hall.gains(0, -1));
        hall.office(NONE);
        hall.office(NONE);
        int[] measures = {0, 10, 29, 30, 31, 50, 100};
        for (int i = 0; i < measures.length; i++) {
            Halls.act(hall, Halls.RULE, i % 2, measures[i], 0);
        }
        Halls.act(hall, Halls.DELAY, 0, 30, 0);
        int[] limits = {0, 9, 10, 29, 30, 31, 49, 50, 99, 100};
        int[] due = {3, 3, 2, 1, 0, -1, -1, -2, -2, -3};
        for (int i = 0; i < limits.length; i++) {
            Check.due("24: with " + limits[i], hall.gains(Halls.RULE, limits[i]), due[i]);
        }
        Check.due("24: another kind", hall.gains(Halls.DELAY, 29), 1);
        Check.due("24: a kind without acts", hall.gains(Halls.ANSWER, 0), 0);
    }

    private static void gainsOfDays() {
        Grievancehall hall = new Grievancehall();
        hall.office(NONE);
        Halls.act(hall, Halls.RULE, 0, 20, 0);
        Halls.act(hall, Halls.RULE, 0, 40, 0);
        hall.pass(1);
        hall.limit(Halls.RULE, 10);
        Halls.act(hall, Halls.RULE, 0, 20, 0);
        hall.pass(1);
        hall.limit(Halls.RULE, 90);
        Halls.act(hall, Halls.RULE, 0, 40, 0);
        // Now acts 1 and 2 fail, each by the limit of its own day.
        Check.due("24: one more and one less", hall.gains(Halls.RULE, 30), 0);
        Check.due("24: two more", hall.gains(Halls.RULE, 10), 2);
        Check.due("24: two less", hall.gains(Halls.RULE, 50), -2);
        Check.due("24: a question alters nothing", hall.fault(2), 1);
        Check.due("24: nor the limit", hall.limit(Halls.RULE, 1), 90);
    }

    private static void allActs() {
        Grievancehall hall = new Grievancehall();
        hall.office(NONE);
        for (int i = 0; i < 24; i++) {
            Halls.act(hall, Halls.DELAY, 0, i == 23 ? 63 : 31, 100);
        }
        Check.due("21: of 24 acts", hall.fault(23), 3);
        Check.due("21: of 24 acts", hall.fault(0), 1);
        Check.due("22: of 24 acts", hall.likes(0), 23);
        Check.due("24: of 24 acts", hall.gains(Halls.DELAY, 62), -23);
        hall.plea(0, 23);
        hall.pass(10);
        hall.complain(0, 23);
        Halls.findAll(hall, 0);
        Check.due("17: for 24 acts", hall.remedy(0, 7), 24);
        Check.due("23: of 24 acts", hall.remedied(0), 7);
        Check.due("23: of 24 acts", hall.remedied(23), 7);
    }
}
