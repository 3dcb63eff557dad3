import java.util.ArrayList;
import java.util.HashMap;
import java.util.HashSet;
import java.util.List;
import java.util.Map;
import java.util.Set;
import java.util.TreeMap;

/**
 * A second model of the hall, read from the document apart from the class: it keeps a map of days for all that
 * is told from days on, and lets days go by one at a time.
 */
final class SlowHall {
    private record Deed(int owner, String kind, int day, int measure, int harm) {
    }

    private static final class Case {
        int deed;
        String state = "OPEN";
        int left = 60;
        final Set<Integer> people = new HashSet<>();
        boolean asked;
        boolean owed;
        int owedDays;
        boolean heard;
        Integer finding;
    }

    private static final List<String> KINDS = List.of("delay", "promise", "rule", "answer");

    private String word = "";
    private int day = 0;
    private final List<Integer> above = new ArrayList<>();
    private final Map<Integer, TreeMap<Integer, Integer>> actors = new HashMap<>();
    private final Map<Integer, TreeMap<Integer, Integer>> limits = new HashMap<>();
    private final List<Deed> deeds = new ArrayList<>();
    private final Set<Integer> inCourt = new HashSet<>();
    private final Set<Integer> waived = new HashSet<>();
    private final Map<List<Integer>, Integer> pleas = new HashMap<>();
    private final List<Case> cases = new ArrayList<>();
    private final Map<Integer, Integer> remedies = new HashMap<>();

    long call(String name, int[] a) {
        switch (name) {
            case "letter": return letter((char) a[0]);
            case "office": return office(a[0]);
            case "delegate": return delegate(a[0], a[1]);
            case "whose": return whose(a[0], a[1]);
            case "limit": return limit(a[0], a[1]);
            case "act": return act(a[0], a[1], a[2]);
            case "court": return mark(inCourt, a[0], a[1] == 1);
            case "waive": return mark(waived, a[0], a[1] == 1);
            case "plea": return plea(a[0], a[1]);
            case "bar": return bar(a[0], a[1]);
            case "complain": return complain(a[0], a[1]);
            case "ask": return ask(a[0]);
            case "answer": return answer(a[0]);
            case "hear": return hear(a[0]);
            case "find": return find(a[0]);
            case "remedy": return remedy(a[0], a[1]);
            case "pass": return pass(a[0]);
            case "about": return about(a[0], a[1]);
            case "reminder": return reminder(a[0]);
            case "fault": return fault(index(a[0], deeds.size()));
            case "likes": return likes(index(a[0], deeds.size())).size();
            case "remedied": return remedies.getOrDefault(index(a[0], deeds.size()), -1);
            case "gains": return gains(a[0], a[1]);
            default: throw new AssertionError(name);
        }
    }

    private static int index(int number, int size) {
        if (number < 0 || number >= size) {
            throw new IndexOutOfBoundsException();
        }
        return number;
    }

    private static void argument(boolean good) {
        if (!good) {
            throw new IllegalArgumentException();
        }
    }

    private static void state(boolean good) {
        if (!good) {
            throw new IllegalStateException();
        }
    }

    private long letter(char letter) {
        argument("abcdefghijklmnopqrstuvwxyz".indexOf(letter) >= 0);
        state(word.length() < 7);
        word += letter;
        return word.length();
    }

    private long office(int up) {
        if (up != -1) {
            index(up, above.size());
        }
        state(above.size() < 10);
        above.add(up);
        return above.size() - 1;
    }

    private int actorOn(int office, int on) {
        var told = actors.getOrDefault(office, new TreeMap<>()).floorEntry(on);
        return told == null ? -1 : told.getValue();
    }

    private long delegate(int office, int to) {
        index(office, above.size());
        if (to != -1) {
            index(to, above.size());
        }
        argument(office != to);
        int before = actorOn(office, day);
        actors.computeIfAbsent(office, o -> new TreeMap<>()).put(day, to);
        return before;
    }

    private long whose(int office, int on) {
        index(office, above.size());
        argument(on >= 0 && on <= day);
        return follow(office, on, 10);
    }

    private int follow(int office, int on, int times) {
        int actor = actorOn(office, on);
        return times == 0 || actor == -1 ? office : follow(actor, on, times - 1);
    }

    private int limitOn(int kind, int on) {
        var told = limits.getOrDefault(kind, new TreeMap<>()).floorEntry(on);
        return told == null ? 30 : told.getValue();
    }

    private long limit(int kind, int limit) {
        index(kind, 4);
        argument(limit >= 0 && limit <= 100);
        int before = limitOn(kind, day);
        limits.computeIfAbsent(kind, k -> new TreeMap<>()).put(day, limit);
        return before;
    }

    private long act(int office, int measure, int harm) {
        index(office, above.size());
        argument(measure >= 0 && measure <= 100 && harm >= 0 && harm <= 1000);
        state(deeds.size() < 24);
        String typed = word;
        word = "";
        if (!KINDS.contains(typed)) {
            return -1;
        }
        deeds.add(new Deed(follow(office, day, 10), typed, day, measure, harm));
        return deeds.size() - 1;
    }

    private long mark(Set<Integer> marked, int act, boolean is) {
        index(act, deeds.size());
        boolean was = is ? !marked.add(act) : marked.remove(act);
        return was ? 1 : 0;
    }

    private long plea(int person, int act) {
        index(person, 10);
        index(act, deeds.size());
        state(!pleas.containsKey(List.of(person, act)));
        pleas.put(List.of(person, act), day);
        return 0;
    }

    private long bar(int person, int act) {
        index(person, 10);
        index(act, deeds.size());
        Integer told = pleas.get(List.of(person, act));
        if (told == null || told > day - 10) {
            return 1;
        }
        if (inCourt.contains(act)) {
            return 2;
        }
        return day > deeds.get(act).day() + 365 && !waived.contains(act) ? 3 : 0;
    }

    private long complain(int person, int act) {
        state(bar(person, act) == 0);
        for (int i = 0; i < cases.size(); i++) {
            if (cases.get(i).deed == act && !cases.get(i).state.equals("LAPSED")) {
                cases.get(i).people.add(person);
                return i;
            }
        }
        state(cases.size() < 16);
        Case made = new Case();
        made.deed = act;
        made.people.add(person);
        cases.add(made);
        return cases.size() - 1;
    }

    private Case one(int complaint) {
        return cases.get(index(complaint, cases.size()));
    }

    private long ask(int complaint) {
        Case c = one(complaint);
        state(c.state.equals("OPEN") && !c.asked);
        c.asked = true;
        c.owed = true;
        return deeds.get(c.deed).owner();
    }

    private long answer(int complaint) {
        Case c = one(complaint);
        state(c.owed);
        c.owed = false;
        return c.owedDays;
    }

    private long hear(int complaint) {
        Case c = one(complaint);
        state(c.state.equals("OPEN") && c.asked && !c.owed && !c.heard);
        c.heard = true;
        return 0;
    }

    private long find(int complaint) {
        Case c = one(complaint);
        state(c.state.equals("OPEN") && c.heard);
        c.finding = (int) fault(c.deed);
        c.state = "FOUND";
        return c.finding;
    }

    private long remedy(int complaint, int percent) {
        Case c = one(complaint);
        argument(percent >= 0 && percent <= 100);
        state(c.state.equals("FOUND") && c.finding > 0);
        Set<Integer> given = new HashSet<>(likes(c.deed));
        given.removeIf(act -> fault(act) == 0);
        given.add(c.deed);
        for (int act : given) {
            remedies.put(act, deeds.get(act).harm() * percent / 100);
        }
        return given.size();
    }

    private long pass(int days) {
        argument(days >= 1 && days <= 100);
        state(day + days <= 5000);
        for (int i = 0; i < days; i++) {
            day++;
            for (Case c : cases) {
                if (c.owed) {
                    c.owedDays++;
                } else if (c.state.equals("OPEN")) {
                    c.left--;
                    if (c.left == 0) {
                        c.state = "LAPSED";
                    }
                }
            }
        }
        return day;
    }

    private long about(int complaint, int what) {
        Case c = one(complaint);
        argument(what >= 0 && what <= 5);
        int[] all = {List.of("OPEN", "FOUND", "LAPSED").indexOf(c.state), c.deed, c.left, c.people.size(),
            c.owed ? 1 : 0, c.finding == null ? -1 : c.finding};
        return all[what];
    }

    private long reminder(int complaint) {
        Case c = one(complaint);
        if (!c.owed) {
            return -1;
        }
        int office = deeds.get(c.deed).owner();
        for (int owed = c.owedDays; owed >= 10 && above.get(office) != -1; owed -= 10) {
            office = above.get(office);
        }
        return office;
    }

    private List<Integer> likes(int act) {
        List<Integer> all = new ArrayList<>();
        for (int i = 0; i < deeds.size(); i++) {
            if (i != act && deeds.get(i).kind().equals(deeds.get(act).kind())
                    && deeds.get(i).owner() == deeds.get(act).owner()) {
                all.add(i);
            }
        }
        return all;
    }

    private boolean fails(Deed deed, int limit) {
        return deed.measure() > limit;
    }

    private int limitFor(Deed deed) {
        return limitOn(KINDS.indexOf(deed.kind()), deed.day());
    }

    private long fault(int act) {
        Deed deed = deeds.get(act);
        int fault = fails(deed, limitFor(deed)) ? 1 : 0;
        List<Integer> likes = likes(act);
        double sum = 0;
        for (int like : likes) {
            sum += deeds.get(like).measure();
        }
        if (likes.size() >= 2 && deed.measure() > 2 * (int) Math.floor(sum / likes.size())) {
            fault += 2;
        }
        return fault;
    }

    private long gains(int kind, int limit) {
        index(kind, 4);
        argument(limit >= 0 && limit <= 100);
        long more = 0;
        long less = 0;
        for (Deed deed : deeds) {
            if (deed.kind().equals(KINDS.get(kind))) {
                boolean then = fails(deed, limit);
                boolean now = fails(deed, limitFor(deed));
                more += then && !now ? 1 : 0;
                less += now && !then ? 1 : 0;
            }
        }
        return more - less;
    }
}
