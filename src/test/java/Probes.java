import java.util.ArrayList;
import java.util.List;

/**
 * Ways to look at a hall by its calls alone. Each is used on a hall of its own, since some alter what they look at;
 * all together show whatever of the state can ever alter an answer.
 */
final class Probes {
    interface Probe {
        void look(Trace hall);
    }

    static final List<Probe> ALL = make();

    private static final int OFFICES = 10;
    private static final int PEOPLE = 10;
    private static final int KINDS = 4;
    private static final int LAST_QUESTION = 5;

    private Probes() {
    }

    private static List<Probe> make() {
        List<Probe> all = new ArrayList<>(List.of(Probes::owners, Probes::whatWasTold, Probes::letters, Probes::acts,
            Probes::marks, Probes::pleas, Probes::limits, Probes::gains, Probes::complaints, Probes::joins,
            Probes::tree));
        for (String word : Halls.WORDS) {
            for (int from = 0; from <= word.length(); from++) {
                String rest = word.substring(from);
                all.add(hall -> word(hall, rest));
            }
        }
        for (int days = 0; days <= 10; days++) {
            int later = days;
            all.add(hall -> bars(hall, later));
        }
        all.add(hall -> daysOn(hall, "about", 0));
        all.add(hall -> daysOn(hall, "about", 2));
        all.add(hall -> daysOn(hall, "reminder"));
        for (String name : List.of("ask", "answer", "hear", "find")) {
            all.add(hall -> eachComplaint(hall, name));
        }
        return all;
    }

    private static void owners(Trace hall) {
        int today = hall.today();
        for (int office = 0; office <= OFFICES; office++) {
            hall.see("whose", office, 0);
            for (int day = Math.max(0, today - 12); day <= today + 1; day++) {
                hall.see("whose", office, day);
            }
        }
    }

    private static void whatWasTold(Trace hall) {
        for (int office = 0; office < OFFICES; office++) {
            hall.see("delegate", office, Grievancehall.NONE);
        }
        for (int kind = 0; kind < KINDS; kind++) {
            hall.see("limit", kind, 50);
        }
        for (int i = 0; i <= OFFICES; i++) {
            hall.see("office", Grievancehall.NONE);
        }
        hall.see("pass", 1);
    }

    private static void letters(Trace hall) {
        for (int i = 0; i < 8; i++) {
            hall.see("letter", 'q');
        }
    }

    /** The word that is typed shows by what it becomes with some letters more. */
    private static void word(Trace hall, String rest) {
        hall.see("office", Grievancehall.NONE);
        for (int i = 0; i < rest.length(); i++) {
            hall.see("letter", rest.charAt(i));
        }
        hall.see("act", 0, 100, 0);
        for (int kind = 0; kind < KINDS; kind++) {
            hall.see("gains", kind, 100);
        }
    }

    private static void acts(Trace hall) {
        for (int act = 0; act <= hall.acts(); act++) {
            hall.see("fault", act);
            hall.see("likes", act);
            hall.see("remedied", act);
        }
    }

    private static void marks(Trace hall) {
        for (int act = 0; act <= hall.acts(); act++) {
            hall.see("court", act, 0);
            hall.see("waive", act, 0);
        }
    }

    private static void bars(Trace hall, int daysLater) {
        if (daysLater > 0) {
            hall.see("pass", daysLater);
        }
        for (int act = 0; act <= hall.acts(); act++) {
            for (int person = 0; person < PEOPLE; person++) {
                hall.see("bar", person, act);
            }
        }
    }

    private static void pleas(Trace hall) {
        for (int act = 0; act <= hall.acts(); act++) {
            for (int person = 0; person < PEOPLE; person++) {
                hall.see("plea", person, act);
            }
        }
    }

    private static void limits(Trace hall) {
        for (int limit = 0; limit <= 100; limit += 100) {
            for (int kind = 0; kind < KINDS; kind++) {
                hall.see("limit", kind, limit);
            }
            acts(hall);
        }
    }

    private static void gains(Trace hall) {
        for (int kind = 0; kind < KINDS; kind++) {
            for (int limit = 0; limit <= 100; limit += limit % 10 == 0 ? 9 : 1) {
                hall.see("gains", kind, limit);
            }
        }
    }

    private static void complaints(Trace hall) {
        for (int complaint = 0; complaint <= hall.complaints(); complaint++) {
            for (int what = 0; what <= LAST_QUESTION; what++) {
                hall.see("about", complaint, what);
            }
            hall.see("reminder", complaint);
        }
    }

    private static void joins(Trace hall) {
        for (int act = 0; act <= hall.acts(); act++) {
            for (int person = 0; person < PEOPLE; person++) {
                hall.see("complain", person, act);
            }
        }
        for (int complaint = 0; complaint <= hall.complaints(); complaint++) {
            hall.see("about", complaint, 3);
        }
    }

    /** What stands above an office shows by where a reminder climbs to. */
    private static void tree(Trace hall) {
        hall.see("act", 0, 0, 0);
        int act = hall.acts();
        for (int office = 0; office < OFFICES; office++) {
            hall.see("delegate", office, Grievancehall.NONE);
            for (char letter : Halls.WORDS[Halls.RULE].toCharArray()) {
                hall.see("letter", letter);
            }
            hall.see("act", office, 0, 0);
            hall.see("plea", 0, act + office);
        }
        hall.see("pass", 10);
        int complaint = hall.complaints();
        for (int office = 0; office < OFFICES; office++) {
            hall.see("complain", 0, act + office);
            hall.see("ask", complaint + office);
        }
        for (int climbed = 1; climbed < OFFICES; climbed++) {
            hall.see("pass", 10);
            for (int office = 0; office < OFFICES; office++) {
                hall.see("reminder", complaint + office);
            }
        }
    }

    /** Asks each complaint that question on days to come. */
    private static void daysOn(Trace hall, String name, int... what) {
        for (int days : new int[] {1, 8, 1, 40, 8, 1, 1, 1}) {
            hall.see("pass", days);
            for (int complaint = 0; complaint <= hall.complaints(); complaint++) {
                hall.see(name, what.length == 0 ? new int[] {complaint} : new int[] {complaint, what[0]});
            }
        }
    }

    /** Makes a step of each complaint, and then what remains to be done with it. */
    private static void eachComplaint(Trace hall, String name) {
        for (int complaint = 0; complaint <= hall.complaints(); complaint++) {
            hall.see(name, complaint);
            hall.see("answer", complaint);
            hall.see("hear", complaint);
            hall.see("find", complaint);
            hall.see("remedy", complaint, 50);
        }
        for (int act = 0; act <= hall.acts(); act++) {
            hall.see("remedied", act);
        }
        complaints(hall);
    }
}
