/** Steps that many tests begin with. */
final class Halls {
    static final String[] WORDS = {"delay", "promise", "rule", "answer"};
    static final int DELAY = 0, PROMISE = 1, RULE = 2, ANSWER = 3;

    private Halls() {
    }

    static void type(Grievancehall hall, String word) {
        for (int i = 0; i < word.length(); i++) {
            hall.letter(word.charAt(i));
        }
    }

    static int act(Grievancehall hall, int kind, int office, int measure, int harm) {
        type(hall, WORDS[kind]);
        return hall.act(office, measure, harm);
    }

    /** One office, and one act of it: a rule of the measure, on day 0. */
    static Grievancehall withAct(int measure) {
        Grievancehall hall = new Grievancehall();
        hall.office(Grievancehall.NONE);
        act(hall, RULE, 0, measure, 100);
        return hall;
    }

    /** The same on day 10, with complaint 0 of person 0 about the act. */
    static Grievancehall withComplaint(int measure) {
        Grievancehall hall = withAct(measure);
        hall.plea(0, 0);
        hall.pass(10);
        hall.complain(0, 0);
        return hall;
    }

    static void passAll(Grievancehall hall, int days) {
        int left = days;
        while (left > 0) {
            int now = Math.min(100, left);
            hall.pass(now);
            left -= now;
        }
    }

    static int findAll(Grievancehall hall, int complaint) {
        hall.ask(complaint);
        hall.answer(complaint);
        hall.hear(complaint);
        return hall.find(complaint);
    }
}
