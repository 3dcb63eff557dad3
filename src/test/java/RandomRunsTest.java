import java.util.ArrayList;
import java.util.List;
import java.util.Map;
import java.util.Random;
import java.util.TreeMap;

/** Runs of 512 calls, made by a seed, each answered by the class and by the slow model. */
public final class RandomRunsTest {
    private static final int RUNS = 3000;
    private static final int CALLS = 512;
    private static final int LATER_CALLS = 20000;
    private static final int[] STRANGE = {Integer.MIN_VALUE, -101, -2, -1, 0, 4, 9, 10, 16, 24, 100, 101, 1001,
        Integer.MAX_VALUE};

    private static final List<String> REFUSALS = List.of("java.lang.IndexOutOfBoundsException",
        "java.lang.IllegalArgumentException", "java.lang.IllegalStateException");

    private static final Map<String, Integer> seen = new TreeMap<>();

    private RandomRunsTest() {
    }

    public static void main(String[] args) {
        for (int seed = 0; seed < RUNS && Check.allAsDue(); seed++) {
            run(seed);
        }
        everyAnswerIsSeen();
        callsAfterTheLast();
        Check.end();
    }

    private static void run(int seed) {
        Random random = new Random(seed);
        Grievancehall hall = new Grievancehall();
        SlowHall slow = new SlowHall();
        List<String> told = new ArrayList<>();
        int strangeness = seed % 3 == 0 ? 10 : 60;
        while (told.size() < CALLS) {
            boolean first = told.isEmpty() && seed % 4 != 0;
            for (Step step : first ? beginning(random) : steps(random)) {
                if (told.size() == CALLS) {
                    break;
                }
                if (random.nextInt(strangeness) == 0) {
                    step.args()[random.nextInt(step.args().length)] = STRANGE[random.nextInt(STRANGE.length)];
                }
                String got = step.answerOf(hall);
                String due = answer(slow, step);
                told.add(step + " " + got);
                seen.merge(step.name() + " " + kindOf(got), 1, Integer::sum);
                Check.same("seed " + seed + ", call " + told.size() + " " + step, got, due);
                if (!got.equals(due)) {
                    told.forEach(System.out::println);
                    return;
                }
            }
        }
    }

    /** Most runs begin with some offices, acts and pleas: else few complaints come about. */
    private static Step[] beginning(Random random) {
        List<Step> steps = new ArrayList<>();
        steps.add(new Step("office", -1));
        for (int i = 0; i < 4; i++) {
            steps.add(new Step("office", random.nextInt(i + 2) - 1));
        }
        for (int act = 0; act < 6; act++) {
            steps.addAll(List.of(typed(random, random.nextInt(2))));
            steps.add(new Step("plea", random.nextInt(3), act));
            steps.add(new Step("plea", random.nextInt(3), act));
        }
        steps.add(new Step("pass", 10));
        return steps.toArray(new Step[0]);
    }

    private static Step[] steps(Random random) {
        int kind = random.nextInt(4);
        int office = random.nextInt(6);
        int act = random.nextInt(random.nextInt(4) == 0 ? 24 : 6);
        int complaint = random.nextInt(random.nextInt(6) == 0 ? 16 : 3);
        int person = random.nextInt(3);
        switch (random.nextInt(24)) {
            case 0: return one("office", random.nextInt(6) - 1);
            case 1: return one("delegate", office, random.nextInt(6) - 1);
            case 2: return one("whose", office, random.nextInt(100));
            case 3: return one("limit", kind, random.nextInt(101));
            case 4:
            case 5: return typed(random, office);
            case 6: return one("letter", 'a' + random.nextInt(26));
            case 7: return one(random.nextBoolean() ? "court" : "waive", act, random.nextInt(2));
            case 8: return one("plea", person, act);
            case 9: return one("bar", person, act);
            case 10:
            case 11: return one("complain", person, act);
            case 12: return one("ask", complaint);
            case 13: return one("answer", complaint);
            case 14: return one("hear", complaint);
            case 15: return one("find", complaint);
            case 16: return one("remedy", complaint, random.nextInt(101));
            case 17: return one("pass", 1 + random.nextInt(random.nextInt(6) == 0 ? 100 : 8));
            case 18: return one("about", complaint, random.nextInt(6));
            case 19: return one("reminder", complaint);
            case 20: return one(random.nextBoolean() ? "fault" : "likes", act);
            case 21: return one("remedied", act);
            case 22: return one("gains", kind, random.nextInt(101));
            default: return new Step[] {new Step("ask", complaint), new Step("answer", complaint),
                new Step("hear", complaint), new Step("find", complaint)};
        }
    }

    private static Step[] one(String name, int... args) {
        return new Step[] {new Step(name, args)};
    }

    private static Step[] typed(Random random, int office) {
        String word = random.nextInt(3) == 0 ? Halls.WORDS[random.nextInt(4)] : "rule";
        Step[] steps = new Step[word.length() + 1];
        for (int i = 0; i < word.length(); i++) {
            steps[i] = new Step("letter", word.charAt(i));
        }
        steps[word.length()] = new Step("act", office, random.nextInt(101), random.nextInt(1001));
        return steps;
    }

    private static String answer(SlowHall slow, Step step) {
        try {
            return "" + slow.call(step.name(), step.args());
        } catch (RuntimeException e) {
            return e.getClass().getName();
        }
    }

    private static String kindOf(String got) {
        return got.startsWith("java") || got.equals("-1") ? got : "an answer";
    }

    /** The runs are of use only if they reach the rare answers too. */
    private static void everyAnswerIsSeen() {
        String index = "java.lang.IndexOutOfBoundsException";
        String argument = "java.lang.IllegalArgumentException";
        String state = "java.lang.IllegalStateException";
        String[] due = {"complain an answer", "complain " + state, "ask an answer", "ask " + state,
            "answer an answer", "answer " + state, "hear an answer", "hear " + state, "find an answer",
            "find " + state, "remedy an answer", "remedy " + state, "remedy " + argument, "remedy " + index,
            "reminder an answer", "reminder -1", "remedied an answer", "gains an answer", "act " + state,
            "office " + state, "plea " + state, "letter " + state, "delegate " + argument, "delegate an answer",
            "about an answer", "whose an answer", "whose " + argument, "limit an answer", "bar an answer"};
        for (String each : due) {
            Check.due("runs have: " + each, seen.getOrDefault(each, 0) >= 50, true);
        }
    }

    /** What is answered after 512 calls is free, but nothing of the machine's own may be thrown then. */
    private static void callsAfterTheLast() {
        Grievancehall told = new Grievancehall();
        told.office(Grievancehall.NONE);
        told.office(0);
        for (int i = 0; i < LATER_CALLS; i++) {
            told.delegate(0, i % 2 == 0 ? 1 : Grievancehall.NONE);
            told.limit(0, i % 101);
        }
        int whose = told.whose(0, 0);
        Check.due("after the last call", whose == 0 || whose == 1, true);

        Random random = new Random(512);
        Grievancehall any = new Grievancehall();
        for (int i = 0; i < LATER_CALLS; i++) {
            for (Step step : i == 0 ? beginning(random) : steps(random)) {
                String answer = step.answerOf(any);
                boolean isDue = !answer.startsWith("java") || REFUSALS.contains(answer);
                Check.due(step + " after the last call answers " + answer, isDue, true);
            }
        }
    }
}
