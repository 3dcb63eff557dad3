/** Promises 1 to 9: a new object, letter, office, delegate, whose, limit, act, court, waive. */
public final class OfficesAndActsTest {
    private static final int NONE = Grievancehall.NONE;

    public static void main(String[] args) {
        constants();
        newObject();
        letter();
        office();
        delegate();
        whose();
        whoseInCircles();
        limit();
        limitOfDay();
        act();
        actWords();
        actOwner();
        court();
        waive();
        Check.end();
    }

    private static void constants() {
        Check.due("NONE", Grievancehall.NONE, -1);
        Check.due("OPEN", Grievancehall.OPEN, 0);
        Check.due("FOUND", Grievancehall.FOUND, 1);
        Check.due("LAPSED", Grievancehall.LAPSED, 2);
    }

    private static void newObject() {
        Grievancehall hall = new Grievancehall();
        Check.outOfBounds("1: no office 0", () -> hall.whose(0, 0));
        Check.outOfBounds("1: no act 0", () -> hall.fault(0));
        Check.outOfBounds("1: no complaint 0", () -> hall.about(0, 0));
        for (int kind = 0; kind < 4; kind++) {
            Check.due("1: no act gains", hall.gains(kind, 0), 0);
            Check.due("1: first limit", hall.limit(kind, 30), 30);
        }
        Check.due("1: nothing is typed", hall.letter('x'), 1);
        Check.due("1: first office", hall.office(NONE), 0);
        Check.due("1: whose on day 0", hall.whose(0, 0), 0);
        Check.badArgument("1: begins on day 0", () -> hall.whose(0, 1));
        Check.due("1: the day after", hall.pass(1), 1);
    }

    private static void letter() {
        Grievancehall hall = new Grievancehall();
        char[] wrong = {0, 'A', 'Z', '`', '{', ' ', '0', (char) 225, (char) 255, (char) (256 + 'a'), Character.MAX_VALUE};
        for (char sign : wrong) {
            Check.badArgument("2: letter " + (int) sign, () -> hall.letter(sign));
        }
        String seven = "azbycxd";
        for (int i = 0; i < 7; i++) {
            Check.due("2: letter " + i, hall.letter(seven.charAt(i)), i + 1);
        }
        Check.badState("2: an eighth letter", () -> hall.letter('a'));
        Check.badState("2: an eighth letter again", () -> hall.letter('z'));
        Check.badArgument("2: the argument is named first", () -> hall.letter('A'));
        hall.office(NONE);
        Check.due("2: no such word", hall.act(0, 1, 1), NONE);
        Check.due("2: letter of the next word", hall.letter('q'), 1);

        Grievancehall kept = new Grievancehall();
        kept.office(NONE);
        Halls.type(kept, "promise");
        Check.badState("2: word is full", () -> kept.letter('s'));
        Check.badArgument("2: no letter", () -> kept.letter('!'));
        Check.due("2: a refused letter leaves the word", kept.act(0, 1, 1), 0);
    }

    private static void office() {
        Grievancehall hall = new Grievancehall();
        Check.outOfBounds("3: none above yet", () -> hall.office(0));
        Check.outOfBounds("3: -2", () -> hall.office(-2));
        Check.outOfBounds("3: least", () -> hall.office(Integer.MIN_VALUE));
        Check.outOfBounds("3: most", () -> hall.office(Integer.MAX_VALUE));
        for (int i = 0; i < 10; i++) {
            int next = i;
            Check.outOfBounds("3: not above itself", () -> hall.office(next));
            Check.due("3: office " + i, hall.office(i % 3 - 1), i);
        }
        Check.badState("3: an eleventh", () -> hall.office(NONE));
        Check.badState("3: an eleventh below the last", () -> hall.office(9));
        Check.outOfBounds("3: the index is named first", () -> hall.office(10));
        Check.outOfBounds("3: the index is named first, below", () -> hall.office(-2));
    }

    private static void delegate() {
        Grievancehall hall = new Grievancehall();
        for (int i = 0; i < 4; i++) {
            hall.office(NONE);
        }
        Check.outOfBounds("4: no office", () -> hall.delegate(4, 0));
        Check.outOfBounds("4: no other office", () -> hall.delegate(0, 4));
        Check.outOfBounds("4: -1", () -> hall.delegate(-1, 0));
        Check.outOfBounds("4: -2", () -> hall.delegate(0, -2));
        Check.outOfBounds("4: both the same but none", () -> hall.delegate(4, 4));
        Check.outOfBounds("4: NONE lets NONE", () -> hall.delegate(NONE, NONE));
        Check.badArgument("4: both the same", () -> hall.delegate(3, 3));
        Check.due("4: none before", hall.delegate(0, 1), NONE);
        Check.due("4: the one of this day", hall.delegate(0, 2), 1);
        hall.pass(7);
        Check.due("4: the one since an earlier day", hall.delegate(0, 3), 2);
        Check.due("4: the direct one, not the end", hall.delegate(3, 1), NONE);
        Check.due("4: the direct one", hall.delegate(0, NONE), 3);
        Check.due("4: itself again", hall.delegate(0, NONE), NONE);
        Check.badArgument("4: both the same", () -> hall.delegate(0, 0));
        Check.due("4: a refused call changes nothing", hall.delegate(0, 1), NONE);
        Check.due("4: of another office", hall.delegate(1, 0), NONE);
    }

    private static void whose() {
        Grievancehall hall = new Grievancehall();
        for (int i = 0; i < 10; i++) {
            hall.office(NONE);
        }
        Check.outOfBounds("5: no office", () -> hall.whose(10, 0));
        Check.outOfBounds("5: -1", () -> hall.whose(NONE, 0));
        Check.outOfBounds("5: the index is named first", () -> hall.whose(10, 9));
        Check.badArgument("5: tomorrow", () -> hall.whose(0, 1));
        Check.badArgument("5: yesterday of day 0", () -> hall.whose(0, -1));
        hall.pass(5);
        hall.delegate(0, 1);
        hall.delegate(0, 2);
        hall.pass(5);
        hall.delegate(2, 3);
        hall.pass(5);
        hall.delegate(0, NONE);
        Check.due("5: ahead of the first day", hall.whose(0, 4), 0);
        Check.due("5: the last of several of one day", hall.whose(0, 5), 2);
        Check.due("5: the day ahead of the next", hall.whose(0, 9), 2);
        Check.due("5: who acts for that one", hall.whose(0, 10), 3);
        Check.due("5: until itself again", hall.whose(0, 14), 3);
        Check.due("5: itself again", hall.whose(0, 15), 0);
        Check.due("5: the other one", hall.whose(2, 15), 3);
        Check.badArgument("5: tomorrow", () -> hall.whose(0, 16));

        Grievancehall chain = new Grievancehall();
        for (int i = 0; i < 10; i++) {
            chain.office(NONE);
        }
        for (int i = 0; i < 9; i++) {
            chain.delegate(i, i + 1);
        }
        Check.due("5: a chain of nine", chain.whose(0, 0), 9);
    }

    private static void whoseInCircles() {
        for (int size = 2; size <= 10; size++) {
            Grievancehall hall = new Grievancehall();
            for (int i = 0; i < 10; i++) {
                hall.office(NONE);
            }
            for (int i = 0; i < size; i++) {
                hall.delegate(i, (i + 1) % size);
            }
            for (int i = 0; i < size; i++) {
                Check.due("5: ten times in a circle of " + size, hall.whose(i, 0), (i + 10) % size);
            }
        }
    }

    private static void limit() {
        Grievancehall hall = new Grievancehall();
        Check.outOfBounds("6: kind 4", () -> hall.limit(4, 1));
        Check.outOfBounds("6: kind -1", () -> hall.limit(-1, 1));
        Check.outOfBounds("6: the index is named first", () -> hall.limit(4, 101));
        Check.badArgument("6: limit 101", () -> hall.limit(0, 101));
        Check.badArgument("6: limit -1", () -> hall.limit(0, -1));
        for (int kind = 0; kind < 4; kind++) {
            Check.due("6: 30 at first", hall.limit(kind, 100), 30);
            Check.due("6: of this day", hall.limit(kind, 0), 100);
        }
        hall.pass(3);
        Check.due("6: since an earlier day", hall.limit(1, 50), 0);
        Check.due("6: of this day", hall.limit(1, 51), 50);
        Check.badArgument("6: limit 101", () -> hall.limit(1, 101));
        Check.due("6: a refused call changes nothing", hall.limit(1, 52), 51);
        Check.due("6: another kind", hall.limit(2, 52), 0);
    }

    private static void limitOfDay() {
        Grievancehall hall = new Grievancehall();
        hall.office(NONE);
        hall.pass(10);
        Halls.act(hall, Halls.RULE, 0, 30, 0);
        Halls.act(hall, Halls.DELAY, 0, 31, 0);
        Check.due("6: not above the limit", hall.fault(0), 0);
        Check.due("6: above the limit", hall.fault(1), 1);
        hall.limit(Halls.RULE, 29);
        Check.due("6: the last limit of the act's day", hall.fault(0), 1);
        Check.due("6: not of another kind", hall.fault(1), 1);
        hall.limit(Halls.RULE, 30);
        Check.due("6: the last limit of several", hall.fault(0), 0);
        hall.pass(1);
        hall.limit(Halls.RULE, 0);
        Check.due("6: a limit of a later day", hall.fault(0), 0);
        Halls.act(hall, Halls.RULE, 0, 1, 0);
        Check.due("6: an act of the later day", hall.fault(2), 1);
    }

    private static void act() {
        Grievancehall hall = new Grievancehall();
        Check.outOfBounds("7: no office", () -> hall.act(0, 0, 0));
        hall.office(NONE);
        Halls.type(hall, "rule");
        Check.outOfBounds("7: no office 1", () -> hall.act(1, 0, 0));
        Check.outOfBounds("7: no office -1", () -> hall.act(NONE, 0, 0));
        Check.outOfBounds("7: the index is named first", () -> hall.act(1, 101, 1001));
        Check.badArgument("7: measure 101", () -> hall.act(0, 101, 0));
        Check.badArgument("7: measure -1", () -> hall.act(0, -1, 0));
        Check.badArgument("7: harm 1001", () -> hall.act(0, 0, 1001));
        Check.badArgument("7: harm -1", () -> hall.act(0, 0, -1));
        Check.due("7: a refused call leaves the word", hall.letter('s'), 5);
        Check.due("7: no kind", hall.act(0, 0, 0), NONE);
        Check.due("7: nothing is typed then", hall.act(0, 0, 0), NONE);
        for (int i = 0; i < 24; i++) {
            Check.due("7: act " + i, Halls.act(hall, i % 4, 0, i % 2 * 100, i % 2 * 1000), i);
            if (i < 23) {
                Check.due("7: nothing is typed after it", hall.act(0, 0, 0), NONE);
            }
        }
        Halls.type(hall, "delay");
        Check.badState("7: a twenty-fifth", () -> hall.act(0, 0, 0));
        Check.badArgument("7: the argument is named ahead of the state", () -> hall.act(0, 101, 0));
        Check.outOfBounds("7: the index is named ahead of the state", () -> hall.act(1, 0, 0));
        Check.due("7: a refused act leaves the word", hall.letter('s'), 6);
        Check.badState("7: a twenty-fifth of no kind", () -> hall.act(0, 0, 0));
        Check.due("7: that leaves the word too", hall.letter('s'), 7);
        Check.outOfBounds("7: there is no act 24", () -> hall.fault(24));
    }

    private static void actWords() {
        String[] wrong = {"", "dela", "delays", "promis", "rul", "rules", "answe", "answers", "eludr", "elur", "ruled",
            "yaled", "belay", "delax", "rulf", "inswer", "a"};
        Grievancehall hall = new Grievancehall();
        hall.office(NONE);
        for (String word : wrong) {
            Halls.type(hall, word);
            Check.due("7: word " + word, hall.act(0, 0, 0), NONE);
        }
        for (int kind = 0; kind < 4; kind++) {
            Check.due("7: word " + Halls.WORDS[kind], Halls.act(hall, kind, 0, 31, 0), kind);
        }
        for (int kind = 0; kind < 4; kind++) {
            Check.due("7: one act of kind " + kind, hall.gains(kind, 100), -1);
            hall.limit(kind, 31);
            Check.due("7: of this kind alone", hall.fault(kind), 0);
            Check.due("7: and no other", hall.fault((kind + 1) % 4), kind == 3 ? 0 : 1);
        }
    }

    private static void actOwner() {
        Grievancehall hall = new Grievancehall();
        for (int i = 0; i < 3; i++) {
            hall.office(NONE);
        }
        hall.delegate(0, 1);
        Halls.act(hall, Halls.RULE, 0, 10, 0);
        hall.delegate(0, 2);
        Halls.act(hall, Halls.RULE, 0, 10, 0);
        Halls.act(hall, Halls.RULE, 1, 10, 0);
        Check.due("7: whose it is is settled as it is told", hall.likes(0), 1);
        Check.due("7: the act after it is another one's", hall.likes(1), 0);
        hall.plea(0, 0);
        hall.plea(0, 1);
        hall.pass(10);
        hall.delegate(0, NONE);
        hall.delegate(1, 2);
        Check.due("7: complaint", hall.complain(0, 0), 0);
        Check.due("7: complaint", hall.complain(0, 1), 1);
        Check.due("7: of whose act it was", hall.ask(0), 1);
        Check.due("7: of whose act the other one was", hall.ask(1), 2);
    }

    private static void court() {
        Grievancehall hall = Halls.withAct(0);
        Check.outOfBounds("8: act 1", () -> hall.court(1, true));
        Check.outOfBounds("8: act -1", () -> hall.court(-1, false));
        Check.due("8: not at first", hall.court(0, false), false);
        Check.due("8: still not", hall.court(0, true), false);
        Check.due("8: it was", hall.court(0, true), true);
        Halls.act(hall, Halls.RULE, 0, 0, 0);
        Check.due("8: another act", hall.court(1, false), false);
        hall.plea(0, 0);
        hall.plea(0, 1);
        hall.pass(10);
        Check.due("8: barred", hall.bar(0, 0), 2);
        Check.due("8: another act is not", hall.bar(0, 1), 0);
        Check.due("8: not any more", hall.court(0, false), true);
        Check.due("8: not barred any more", hall.bar(0, 0), 0);
        Check.due("8: waiving is another matter", hall.waive(0, true), false);
        Check.due("8: court is another matter", hall.court(0, true), false);
    }

    private static void waive() {
        Grievancehall hall = Halls.withAct(0);
        Check.outOfBounds("9: act 1", () -> hall.waive(1, true));
        Check.outOfBounds("9: act -1", () -> hall.waive(-1, false));
        Halls.act(hall, Halls.RULE, 0, 0, 0);
        hall.plea(0, 0);
        hall.plea(0, 1);
        Halls.passAll(hall, 366);
        Check.due("9: barred by time", hall.bar(0, 0), 3);
        Check.due("9: not at first", hall.waive(0, true), false);
        Check.due("9: it was", hall.waive(0, true), true);
        Check.due("9: not barred", hall.bar(0, 0), 0);
        Check.due("9: another act is", hall.bar(0, 1), 3);
        Check.due("9: it was", hall.waive(0, false), true);
        Check.due("9: not any more", hall.waive(0, false), false);
        Check.due("9: barred again", hall.bar(0, 0), 3);
    }
}
