/** Counts the answers of one test class that are not as due, and ends the program with 1 if there are some. */
final class Check {
    interface Call {
        void make();
    }

    private static int made = 0;
    private static int wrong = 0;
    private static String part = "";

    private Check() {
    }

    /** What the checks from now on are about: told ahead of each that is wrong. */
    static void part(String of) {
        part = of;
    }

    static int howMany() {
        return made;
    }

    static void due(String what, long got, long want) {
        made++;
        if (got != want) {
            tell(what + " answered " + got + ", due is " + want);
        }
    }

    static void due(String what, boolean got, boolean want) {
        due(what, got ? 1 : 0, want ? 1 : 0);
    }

    static void same(String what, Object got, Object want) {
        made++;
        if (!got.equals(want)) {
            tell(what + " is " + got + ", due is " + want);
        }
    }

    /** Asks for exactly that exception: not one of a class below it. */
    static void fails(String what, Class<? extends RuntimeException> due, Call call) {
        made++;
        try {
            call.make();
        } catch (RuntimeException e) {
            if (e.getClass() != due) {
                tell(what + " throws " + e + ", due is " + due.getSimpleName());
            }
            return;
        }
        tell(what + " throws nothing, due is " + due.getSimpleName());
    }

    static void outOfBounds(String what, Call call) {
        fails(what, IndexOutOfBoundsException.class, call);
    }

    static void badArgument(String what, Call call) {
        fails(what, IllegalArgumentException.class, call);
    }

    static void badState(String what, Call call) {
        fails(what, IllegalStateException.class, call);
    }

    static boolean allAsDue() {
        return wrong == 0;
    }

    static void end() {
        System.out.println(made + " checks, " + wrong + " wrong");
        if (wrong != 0) {
            System.exit(1);
        }
    }

    private static void tell(String text) {
        wrong++;
        if (wrong <= 50) {
            System.out.println(part + text);
        }
    }
}
