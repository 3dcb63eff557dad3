/**
 * A hall to which people complain about offices. What each call promises stands in the document;
 * the comments here say only why the code is as it is.
 */
public final class Grievancehall {
    public static final int NONE = -1;
    public static final int OPEN = 0, FOUND = 1, LAPSED = 2;

    private static final int MOST_LETTERS = 7;
    private static final int MOST_OFFICES = 10;
    private static final int MOST_ACTS = 24;
    private static final int MOST_COMPLAINTS = 16;
    private static final int PEOPLE = 10;
    private static final int KINDS = 4;

    private static final int MOST_MEASURE = 100;
    private static final int MOST_HARM = 1000;
    private static final int MOST_LIMIT = 100;
    private static final int FIRST_LIMIT = 30;
    private static final int WHOLE_PERCENT = 100;
    private static final int MOST_DAYS_AT_ONCE = 100;
    private static final int LAST_DAY = 5000;
    private static final int LAST_QUESTION = 5;

    private static final int MOST_DELEGATIONS = 10;
    private static final int DAYS_FROM_PLEA = 10;
    private static final int DAYS_TO_COMPLAIN = 365;
    private static final int DAYS_OF_COMPLAINT = 60;
    private static final int DAYS_TO_CLIMB = 10;
    private static final int LEAST_LIKES = 2;

    private static final int NOT_BARRED = 0, BARRED_BY_PLEA = 1, BARRED_BY_COURT = 2, BARRED_BY_TIME = 3;

    // A finding is the sum of its faults, so that both together are 3.
    private static final int NO_FAULT = 0, FAILS_RULE = 1, UNEQUAL = 2;

    private static final int NOT_ASKED = 0, OWED = 1, ANSWERED = 2;

    // An object is used for 512 calls, and a call tells at most one change.
    private static final int MOST_CHANGES = 512;

    private final char[] typed;
    private int typedCount;

    private final int[] aboveOffice;
    private int officeCount;
    private final Changes delegations;
    private final Changes limits;

    private final Act[] acts;
    private int actCount;

    private final Complaint[] complaints;
    private int complaintCount;

    private int today;

    public Grievancehall() {
        typed = new char[MOST_LETTERS];
        aboveOffice = new int[MOST_OFFICES];
        delegations = new Changes();
        limits = new Changes();
        acts = new Act[MOST_ACTS];
        for (int i = 0; i < MOST_ACTS; i++) {
            acts[i] = new Act();
        }
        complaints = new Complaint[MOST_COMPLAINTS];
        for (int i = 0; i < MOST_COMPLAINTS; i++) {
            complaints[i] = new Complaint();
        }
    }

    // ---- offices, acts

    public int letter(char letter) throws IllegalArgumentException, IllegalStateException {
        if (letter < 'a' || letter > 'z') {
            throw new IllegalArgumentException("not a letter from a to z");
        }
        if (typedCount >= MOST_LETTERS) {
            throw new IllegalStateException("the word is full");
        }
        typed[typedCount] = letter;
        typedCount++;
        return typedCount;
    }

    public int office(int above) throws IndexOutOfBoundsException, IllegalStateException {
        if (above != NONE) {
            needNumber(above, officeCount);
        }
        if (officeCount >= MOST_OFFICES) {
            throw new IllegalStateException("no more offices");
        }
        int number = officeCount;
        aboveOffice[number] = above;
        officeCount++;
        return number;
    }

    public int delegate(int office, int to) throws IndexOutOfBoundsException, IllegalArgumentException {
        needNumber(office, officeCount);
        if (to != NONE) {
            needNumber(to, officeCount);
        }
        if (office == to) {
            throw new IllegalArgumentException("an office cannot be let act for itself");
        }
        int before = delegations.valueOn(office, today, NONE);
        delegations.tell(office, today, to);
        return before;
    }

    public int whose(int office, int day) throws IndexOutOfBoundsException, IllegalArgumentException {
        needNumber(office, officeCount);
        needRange(day, 0, today);
        return ownerOn(office, day);
    }

    public int limit(int kind, int limit) throws IndexOutOfBoundsException, IllegalArgumentException {
        needNumber(kind, KINDS);
        needRange(limit, 0, MOST_LIMIT);
        int before = limits.valueOn(kind, today, FIRST_LIMIT);
        limits.tell(kind, today, limit);
        return before;
    }

    public int act(int office, int measure, int harm)
            throws IndexOutOfBoundsException, IllegalArgumentException, IllegalStateException {
        needNumber(office, officeCount);
        needRange(measure, 0, MOST_MEASURE);
        needRange(harm, 0, MOST_HARM);
        if (actCount >= MOST_ACTS) {
            throw new IllegalStateException("no more acts");
        }
        int kind = typedKind();
        typedCount = 0;
        if (kind == NONE) {
            return NONE;
        }
        int number = actCount;
        acts[number].begin(ownerOn(office, today), kind, today, measure, harm);
        actCount++;
        return number;
    }

    public boolean court(int act, boolean is) throws IndexOutOfBoundsException {
        needNumber(act, actCount);
        boolean was = acts[act].inCourt;
        acts[act].inCourt = is;
        return was;
    }

    public boolean waive(int act, boolean is) throws IndexOutOfBoundsException {
        needNumber(act, actCount);
        boolean was = acts[act].timeWaived;
        acts[act].timeWaived = is;
        return was;
    }

    // ---- pleas, complaints

    public void plea(int person, int act) throws IndexOutOfBoundsException, IllegalStateException {
        needNumber(person, PEOPLE);
        needNumber(act, actCount);
        if (acts[act].pleaDays[person] != NONE) {
            throw new IllegalStateException("that person made a plea of it");
        }
        acts[act].pleaDays[person] = today;
    }

    public int bar(int person, int act) throws IndexOutOfBoundsException {
        needNumber(person, PEOPLE);
        needNumber(act, actCount);
        return acts[act].barOn(person, today);
    }

    public int complain(int person, int act) throws IndexOutOfBoundsException, IllegalStateException {
        needNumber(person, PEOPLE);
        needNumber(act, actCount);
        if (acts[act].barOn(person, today) != NOT_BARRED) {
            throw new IllegalStateException("the complaint is barred");
        }
        int number = complaintToJoin(act);
        if (number == NONE) {
            number = beginComplaint(act);
        }
        complaints[number].join(person);
        return number;
    }

    public int ask(int complaint) throws IndexOutOfBoundsException, IllegalStateException {
        needNumber(complaint, complaintCount);
        Complaint asked = complaints[complaint];
        if (asked.state != OPEN || asked.file != NOT_ASKED) {
            throw new IllegalStateException("not open, or asked for before");
        }
        asked.file = OWED;
        asked.askedDay = today;
        return acts[asked.actNumber].owner;
    }

    public int answer(int complaint) throws IndexOutOfBoundsException, IllegalStateException {
        needNumber(complaint, complaintCount);
        Complaint answered = complaints[complaint];
        if (answered.file != OWED) {
            throw new IllegalStateException("no file is owed");
        }
        answered.file = ANSWERED;
        return today - answered.askedDay;
    }

    public void hear(int complaint) throws IndexOutOfBoundsException, IllegalStateException {
        needNumber(complaint, complaintCount);
        Complaint heard = complaints[complaint];
        if (heard.state != OPEN || heard.file != ANSWERED || heard.officerHeard) {
            throw new IllegalStateException("not open, not answered, or heard before");
        }
        heard.officerHeard = true;
    }

    public int find(int complaint) throws IndexOutOfBoundsException, IllegalStateException {
        needNumber(complaint, complaintCount);
        Complaint found = complaints[complaint];
        if (found.state != OPEN || !found.officerHeard) {
            throw new IllegalStateException("not open, or the officer was not heard");
        }
        found.finding = faultOf(found.actNumber);
        found.state = FOUND;
        return found.finding;
    }

    public int remedy(int complaint, int percent)
            throws IndexOutOfBoundsException, IllegalArgumentException, IllegalStateException {
        needNumber(complaint, complaintCount);
        needRange(percent, 0, WHOLE_PERCENT);
        Complaint found = complaints[complaint];
        if (found.state != FOUND || found.finding == NO_FAULT) {
            throw new IllegalStateException("not found with a fault");
        }
        int count = 0;
        for (int i = 0; i < actCount; i++) {
            if (i == found.actNumber || isLike(found.actNumber, i) && faultOf(i) != NO_FAULT) {
                acts[i].giveRemedy(percent);
                count++;
            }
        }
        return count;
    }

    public int pass(int days) throws IllegalArgumentException, IllegalStateException {
        needRange(days, 1, MOST_DAYS_AT_ONCE);
        if (today + days > LAST_DAY) {
            throw new IllegalStateException("above the last day");
        }
        today += days;
        for (int i = 0; i < complaintCount; i++) {
            complaints[i].letDaysGoBy(days);
        }
        return today;
    }

    // ---- questions

    public int about(int complaint, int what) throws IndexOutOfBoundsException, IllegalArgumentException {
        needNumber(complaint, complaintCount);
        needRange(what, 0, LAST_QUESTION);
        Complaint told = complaints[complaint];
        switch (what) {
            case 0:
                return told.state;
            case 1:
                return told.actNumber;
            case 2:
                return told.daysLeft;
            case 3:
                return Integer.bitCount(told.people);
            case 4:
                return told.file == OWED ? 1 : 0;
            default:
                return told.finding;
        }
    }

    public int reminder(int complaint) throws IndexOutOfBoundsException {
        needNumber(complaint, complaintCount);
        Complaint told = complaints[complaint];
        if (told.file != OWED) {
            return NONE;
        }
        return climbFrom(acts[told.actNumber].owner, (today - told.askedDay) / DAYS_TO_CLIMB);
    }

    public int fault(int act) throws IndexOutOfBoundsException {
        needNumber(act, actCount);
        return faultOf(act);
    }

    public int likes(int act) throws IndexOutOfBoundsException {
        needNumber(act, actCount);
        return countLikes(act);
    }

    public int remedied(int act) throws IndexOutOfBoundsException {
        needNumber(act, actCount);
        return acts[act].remedySum;
    }

    public int gains(int kind, int limit) throws IndexOutOfBoundsException, IllegalArgumentException {
        needNumber(kind, KINDS);
        needRange(limit, 0, MOST_LIMIT);
        int gained = 0;
        for (int i = 0; i < actCount; i++) {
            if (acts[i].kind == kind) {
                int then = acts[i].measure > limit ? 1 : 0;
                int now = failsRule(i) ? 1 : 0;
                gained += then - now;
            }
        }
        return gained;
    }

    // ---- what the calls share

    private static void needNumber(int number, int count) {
        if (number < 0 || number >= count) {
            throw new IndexOutOfBoundsException("there is none of that number");
        }
    }

    private static void needRange(int value, int least, int most) {
        if (value < least || value > most) {
            throw new IllegalArgumentException("out of its range");
        }
    }

    private static String wordOf(int kind) {
        switch (kind) {
            case 0:
                return "delay";
            case 1:
                return "promise";
            case 2:
                return "rule";
            default:
                return "answer";
        }
    }

    private int typedKind() {
        for (int kind = 0; kind < KINDS; kind++) {
            if (isTyped(wordOf(kind))) {
                return kind;
            }
        }
        return NONE;
    }

    private boolean isTyped(String word) {
        if (word.length() != typedCount) {
            return false;
        }
        for (int i = 0; i < typedCount; i++) {
            if (word.charAt(i) != typed[i]) {
                return false;
            }
        }
        return true;
    }

    // Offices may act for one another in a circle: the most steps end that, wherever they end.
    private int ownerOn(int office, int day) {
        int owner = office;
        for (int i = 0; i < MOST_DELEGATIONS; i++) {
            int next = delegations.valueOn(owner, day, NONE);
            if (next == NONE) {
                return owner;
            }
            owner = next;
        }
        return owner;
    }

    private int climbFrom(int office, int steps) {
        int reached = office;
        for (int i = 0; i < steps && aboveOffice[reached] != NONE; i++) {
            reached = aboveOffice[reached];
        }
        return reached;
    }

    private int complaintToJoin(int act) {
        for (int i = 0; i < complaintCount; i++) {
            if (complaints[i].actNumber == act && complaints[i].state != LAPSED) {
                return i;
            }
        }
        return NONE;
    }

    private int beginComplaint(int act) {
        if (complaintCount >= MOST_COMPLAINTS) {
            throw new IllegalStateException("no more complaints");
        }
        int number = complaintCount;
        complaints[number].begin(act);
        complaintCount++;
        return number;
    }

    private boolean isLike(int act, int other) {
        return act != other && acts[act].kind == acts[other].kind && acts[act].owner == acts[other].owner;
    }

    private int countLikes(int act) {
        int count = 0;
        for (int i = 0; i < actCount; i++) {
            if (isLike(act, i)) {
                count++;
            }
        }
        return count;
    }

    private int sumOfLikes(int act) {
        int sum = 0;
        for (int i = 0; i < actCount; i++) {
            if (isLike(act, i)) {
                sum += acts[i].measure;
            }
        }
        return sum;
    }

    private boolean failsRule(int act) {
        return acts[act].measure > limits.valueOn(acts[act].kind, acts[act].day, FIRST_LIMIT);
    }

    private boolean isUnequal(int act) {
        int count = countLikes(act);
        if (count < LEAST_LIKES) {
            return false;
        }
        int mean = sumOfLikes(act) / count;
        return acts[act].measure > 2 * mean;
    }

    private int faultOf(int act) {
        int fault = NO_FAULT;
        if (failsRule(act)) {
            fault += FAILS_RULE;
        }
        if (isUnequal(act)) {
            fault += UNEQUAL;
        }
        return fault;
    }

    /** Numbers that hold from days on, each for a thing that has a number of its own. */
    static final class Changes {
        final int[] things;
        final int[] days;
        final int[] values;
        int count;

        Changes() {
            things = new int[MOST_CHANGES];
            days = new int[MOST_CHANGES];
            values = new int[MOST_CHANGES];
        }

        // Days never go back, so the newest row that fits is the last one of its day.
        int valueOn(int thing, int day, int atFirst) {
            for (int i = count - 1; i >= 0; i--) {
                if (things[i] == thing && days[i] <= day) {
                    return values[i];
                }
            }
            return atFirst;
        }

        // The rows last for every call that is promised; what later calls tell is dropped.
        void tell(int thing, int day, int value) {
            if (count >= MOST_CHANGES) {
                return;
            }
            things[count] = thing;
            days[count] = day;
            values[count] = value;
            count++;
        }
    }

    /** An act, made in the constructor of the hall and begun when it is told. */
    static final class Act {
        int owner;
        int kind;
        int day;
        int measure;
        int harm;
        boolean inCourt;
        boolean timeWaived;
        int remedySum;
        final int[] pleaDays;

        Act() {
            pleaDays = new int[PEOPLE];
            for (int i = 0; i < PEOPLE; i++) {
                pleaDays[i] = NONE;
            }
            remedySum = NONE;
        }

        void begin(int ownerThen, int kindTold, int dayTold, int measureTold, int harmTold) {
            owner = ownerThen;
            kind = kindTold;
            day = dayTold;
            measure = measureTold;
            harm = harmTold;
        }

        int barOn(int person, int now) {
            if (pleaDays[person] == NONE || now - pleaDays[person] < DAYS_FROM_PLEA) {
                return BARRED_BY_PLEA;
            }
            if (inCourt) {
                return BARRED_BY_COURT;
            }
            if (now - day > DAYS_TO_COMPLAIN && !timeWaived) {
                return BARRED_BY_TIME;
            }
            return NOT_BARRED;
        }

        void giveRemedy(int percent) {
            remedySum = harm * percent / WHOLE_PERCENT;
        }
    }

    /** A complaint, made in the constructor of the hall and begun when somebody complains. */
    static final class Complaint {
        int actNumber;
        int state;
        int daysLeft;
        int people;
        int file;
        int askedDay;
        boolean officerHeard;
        int finding;

        void begin(int act) {
            actNumber = act;
            state = OPEN;
            daysLeft = DAYS_OF_COMPLAINT;
            file = NOT_ASKED;
            finding = NONE;
        }

        // A bit for each person, so that to join once more alters nothing.
        void join(int person) {
            people |= 1 << person;
        }

        void letDaysGoBy(int days) {
            if (state != OPEN || file == OWED) {
                return;
            }
            daysLeft = Math.max(0, daysLeft - days);
            if (daysLeft == 0) {
                state = LAPSED;
            }
        }
    }
}
