/** Steps that many tests begin with. */
final class Halls {
    static final String[] WORDS = {"delay", "promise", "rule", "answer"};
    static final int DELAY = 0, PROMISE = 1, RULE = 2, ANSWER = 3;

    private Halls() {
    }

    static void type(Grievancehall hall, String word) {
        for (int i = 0; i < word.length(); i++) {
            hall.letter(word.charAt(i));
        }
    }

    static int act(Grievancehall hall, int kind, int office, int measure, int harm) {
        type(hall, WORDS[kind]);
        return hall.act(office, measure, harm);
    }

    /** One office, and one act of it: a rule of the measure, on day 0. */
    static Grievancehall withAct(int measure) {
        Grievancehall hall = new Grievancehall();
        hall.office(Grievancehall.NONE);
        act(hall, RULE, 0, measure, 100);
        return hall;
    }

    /** The same on day 10, with complaint 0 of person 0 about the act. */
    static Grievancehall withComplaint(int measure) {
        Grievancehall hall = withAct(measure);
        hall.plea(0, 0);
        hall.pass(10);
        hall.complain(0, 0);
        return hall;
    }

    static void passAll(Grievancehall hall, int days) {
        int left = days;
        while (left > 0) {
            int now = Math.min(100, left);
            hall.pass(now);
            left -= now;
        }
    }

    static int findAll(Grievancehall hall, int complaint) {
        hall.ask(complaint);
        hall.answer(complaint);
        hall.hear(complaint);
        return hall.find(complaint);
    }

    /** What every question answers, so that two pictures differ where the state shows a change. */
    static String picture(Grievancehall hall) {
        StringBuilder text = new StringBuilder();
        for (int office = 0; office < 10; office++) {
            for (int day = 0; day < 60; day++) {
                put(text, whose(hall, office, day));
            }
        }
        for (int act = 0; act < 24; act++) {
            put(text, actPicture(hall, act));
        }
        for (int complaint = 0; complaint < 16; complaint++) {
            put(text, complaintPicture(hall, complaint));
        }
        for (int kind = 0; kind < 4; kind++) {
            for (int limit = 0; limit <= 100; limit++) {
                text.append(hall.gains(kind, limit)).append(' ');
            }
        }
        return text.toString();
    }

    private static void put(StringBuilder text, String part) {
        text.append(part).append(';');
    }

    private static String whose(Grievancehall hall, int office, int day) {
        try {
            return "" + hall.whose(office, day);
        } catch (IndexOutOfBoundsException | IllegalArgumentException e) {
            return "none";
        }
    }

    private static String actPicture(Grievancehall hall, int act) {
        StringBuilder text = new StringBuilder();
        try {
            text.append(hall.fault(act)).append(',').append(hall.likes(act)).append(',').append(hall.remedied(act));
            for (int person = 0; person < 10; person++) {
                text.append(',').append(hall.bar(person, act));
            }
        } catch (IndexOutOfBoundsException e) {
            return "none";
        }
        return text.toString();
    }

    private static String complaintPicture(Grievancehall hall, int complaint) {
        StringBuilder text = new StringBuilder();
        try {
            for (int what = 0; what <= 5; what++) {
                text.append(hall.about(complaint, what)).append(',');
            }
            text.append(hall.reminder(complaint));
        } catch (IndexOutOfBoundsException e) {
            return "none";
        }
        return text.toString();
    }
}
