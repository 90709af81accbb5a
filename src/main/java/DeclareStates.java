/**
 * States of declarations: events wait for their time and are carried out in
 * their order, bars hold, and release comes in the moment in which nothing
 * holds any more.
 */
public final class DeclareStates {
    public static final int NONE = -1;

    private static final int MOST_PEOPLE = 12;
    private static final int MOST_DECLARATIONS = 20;
    private static final int MOST_EVENTS = 120;
    private static final int MOST_WAITING = 20;
    private static final int LAST_TIME = 100000;
    private static final int HOURS_A_DAY = 24;
    private static final int LAST_ROLE = 2;
    private static final int LAST_KIND = 2;
    private static final int LAST_ACT = 9;
    private static final int LAST_BAR = 7;
    private static final int LAST_REASON = 9;
    private static final int FIRST_STATE_COUNT = 10;

    private static final int TRADER = 0;
    private static final int OFFICER = 1;
    private static final int PORT = 2;

    private static final int IMPORT = 0;
    private static final int EXPORT = 1;

    private static final int PREPARED = 0;
    private static final int LODGED = 1;
    private static final int ACCEPTED = 2;
    private static final int UNDER_CHECK = 3;
    private static final int RELEASED = 4;
    private static final int LEFT = 5;
    private static final int INVALIDATED = 6;
    private static final int CLEARED = 7;

    private static final int PRESENTED = 1;
    private static final int PAID = 2;
    private static final int FAULTY = 4;

    private static final int LODGE = 0;
    private static final int PRESENT = 1;
    private static final int ACCEPT = 2;
    private static final int SELECT = 3;
    private static final int GOOD = 4;
    private static final int BAD = 5;
    private static final int PAY = 6;
    private static final int LEAVE = 7;
    private static final int REVIEW = 8;
    private static final int MEND = 9;

    private static final int NOT_REFUSED = 0;
    private static final int BY_FAILURE = 1;
    private static final int BY_ROLE = 2;
    private static final int BY_HOURS = 3;
    private static final int BY_STATE = 4;
    private static final int BY_MARK = 5;

    private static final int REQUEST_REFUSED = 0;
    private static final int REQUEST_DONE = 1;
    private static final int REQUEST_WAITS = 2;

    private final int[] roles;
    private int people;
    private final Declaration[] declarations;
    private int declared;
    private final Event[] events;
    private int told;
    private Event firstWaiting;
    private int waiting;
    private int now;
    private int opens;
    private int closes;
    private int failing;

    public DeclareStates() {
        roles = new int[MOST_PEOPLE];
        declarations = new Declaration[MOST_DECLARATIONS];
        events = new Event[MOST_EVENTS];
        opens = 8;
        closes = 16;
    }

    public int person(int role) throws IllegalArgumentException, IllegalStateException {
        if (!isWithin(role, LAST_ROLE)) {
            throw new IllegalArgumentException("no such role");
        }
        if (people >= MOST_PEOPLE) {
            throw new IllegalStateException("no room for more people");
        }
        int number = people;
        roles[number] = role;
        people = number + 1;
        return number;
    }

    public int declaration(int kind, int trader) throws IllegalArgumentException, IllegalStateException {
        if (!isWithin(kind, LAST_KIND)) {
            throw new IllegalArgumentException("no such kind of declaration");
        }
        if (roleOf(trader) != TRADER) {
            throw new IllegalArgumentException("no such trader");
        }
        if (declared >= MOST_DECLARATIONS) {
            throw new IllegalStateException("no room for more declarations");
        }
        int number = declared;
        declarations[number] = new Declaration(number, kind, trader);
        declared = number + 1;
        return number;
    }

    public int event(int declaration, int kind, int who, int time)
            throws IllegalArgumentException, IllegalStateException {
        Declaration subject = declarationAt(declaration);
        if (subject == null || !isWithin(kind, LAST_ACT) || !isPerson(who)) {
            throw new IllegalArgumentException("no such declaration, kind of event or person");
        }
        if (time <= now || time > LAST_TIME) {
            throw new IllegalArgumentException("the time is not behind now, or too late");
        }
        if (told >= MOST_EVENTS || waiting >= MOST_WAITING) {
            throw new IllegalStateException("no room for more events");
        }
        int number = told;
        Event newest = new Event(subject, kind, who, time);
        events[number] = newest;
        told = number + 1;
        putInWaitingOrder(newest);
        return number;
    }

    public int tick(int time) throws IllegalArgumentException {
        if (time < now || time > LAST_TIME) {
            throw new IllegalArgumentException("the time is ahead of now, or too late");
        }
        int settled = 0;
        Event first = firstWaiting;
        while (first != null && first.time <= time && settled < MOST_WAITING) {
            // Taken out of the waiting chain before settling, which puts it into the written one.
            firstWaiting = first.next;
            waiting--;
            settle(first);
            settled++;
            first = firstWaiting;
        }
        now = time;
        return settled;
    }

    public boolean hours(int from, int to) {
        if (from < 0 || to > HOURS_A_DAY || from >= to) {
            return false;
        }
        opens = from;
        closes = to;
        return true;
    }

    public boolean fails(int kind, boolean on) {
        if (!isWithin(kind, LAST_ACT) || isFailing(kind) == on) {
            return false;
        }
        failing ^= 1 << kind;
        return true;
    }

    public int bar(int declaration, int kind, boolean on) throws IllegalArgumentException {
        Declaration subject = declarationAt(declaration);
        if (subject == null || !isWithin(kind, LAST_BAR)) {
            throw new IllegalArgumentException("no such declaration or kind of bar");
        }
        if (subject.isOver() || subject.hasBar(kind) == on) {
            return NONE;
        }
        subject.bars ^= 1 << kind;
        if (!on) {
            subject.releaseIfNothingHolds(now);
        }
        return Integer.bitCount(subject.bars);
    }

    public int invalidate(int declaration, int who, int reason) throws IllegalArgumentException {
        Declaration subject = declarationAt(declaration);
        if (subject == null || !isPerson(who) || !isWithin(reason, LAST_REASON)) {
            throw new IllegalArgumentException("no such declaration, person or reason");
        }
        if (roleOf(who) != OFFICER) {
            return REQUEST_REFUSED;
        }
        return subject.requestInvalidation(who, reason, now);
    }

    public int look(int declaration, int what) throws IndexOutOfBoundsException {
        Declaration subject = declarationAt(declaration);
        if (subject == null) {
            throw new IndexOutOfBoundsException("no such declaration");
        }
        switch (what) {
            case 0: return subject.state;
            case 1: return subject.kind;
            case 2: return subject.trader;
            case 3: return subject.marks;
            case 4: return subject.bars;
            case 5: return subject.writings;
            case 6: return subject.changed;
            case 7: return subject.asker;
            case 8: return subject.reason;
            default: throw new IndexOutOfBoundsException("no such what");
        }
    }

    public int written(int declaration, int i) throws IllegalArgumentException {
        Declaration subject = declarationAt(declaration);
        if (subject == null) {
            throw new IllegalArgumentException("no such declaration");
        }
        Event found = subject.writtenAt(i);
        return found == null ? NONE : 16 * (found.result + 8) + found.kind;
    }

    public int of(int event, int what) throws IndexOutOfBoundsException {
        Event subject = eventAt(event);
        if (subject == null) {
            throw new IndexOutOfBoundsException("no such event");
        }
        switch (what) {
            case 0: return subject.declaration.number;
            case 1: return subject.kind;
            case 2: return subject.who;
            case 3: return subject.time;
            case 4: return subject.isWaiting() ? 1 : 0;
            case 5: return subject.result;
            default: throw new IndexOutOfBoundsException("no such what");
        }
    }

    public int count(int what) {
        switch (what) {
            case 0: return people;
            case 1: return declared;
            case 2: return told;
            case 3: return waiting;
            case 4: return now;
            default: return countOfState(what);
        }
    }

    private int countOfState(int what) {
        if (what < FIRST_STATE_COUNT || what > FIRST_STATE_COUNT + CLEARED) {
            return NONE;
        }
        int found = 0;
        for (int number = 0; number < declared; number++) {
            Declaration one = declarationAt(number);
            if (one != null && one.state == what - FIRST_STATE_COUNT) {
                found++;
            }
        }
        return found;
    }

    private static boolean isWithin(int value, int last) {
        return value >= 0 && value <= last;
    }

    private boolean isPerson(int number) {
        return number >= 0 && number < people && number < roles.length;
    }

    private int roleOf(int number) {
        return isPerson(number) ? roles[number] : NONE;
    }

    private Declaration declarationAt(int number) {
        boolean there = number >= 0 && number < declared && number < declarations.length;
        return there ? declarations[number] : null;
    }

    private Event eventAt(int number) {
        boolean there = number >= 0 && number < told && number < events.length;
        return there ? events[number] : null;
    }

    private boolean isFailing(int kind) {
        return (failing & 1 << kind) != 0;
    }

    // The waiting chain is kept in the order of carrying out, so that tick only takes its head.
    private void putInWaitingOrder(Event newest) {
        Event ahead = null;
        Event behind = firstWaiting;
        while (behind != null && !newest.goesAheadOf(behind)) {
            ahead = behind;
            behind = behind.next;
        }
        newest.next = behind;
        if (ahead == null) {
            firstWaiting = newest;
        } else {
            ahead.next = newest;
        }
        waiting++;
    }

    private void settle(Event due) {
        Declaration subject = due.declaration;
        int refusal = refusalOf(due);
        if (refusal == NOT_REFUSED) {
            subject.carryOut(due.kind, due.time);
            due.result = subject.state;
        } else {
            due.result = -1 - refusal;
        }
        if (refusal == BY_FAILURE) {
            failing &= ~(1 << due.kind);
        }
        subject.write(due);
    }

    private int refusalOf(Event due) {
        if (isFailing(due.kind)) {
            return BY_FAILURE;
        }
        if (!mayTell(due)) {
            return BY_ROLE;
        }
        if (isOfficersAct(due.kind) && !isOpenAt(due.time)) {
            return BY_HOURS;
        }
        if (!due.declaration.stateAllows(due.kind)) {
            return BY_STATE;
        }
        if (!due.declaration.marksAllow(due.kind)) {
            return BY_MARK;
        }
        return NOT_REFUSED;
    }

    private boolean mayTell(Event due) {
        int role = roleOf(due.who);
        switch (due.kind) {
            case LODGE:
            case PAY:
            case MEND:
                return due.who == due.declaration.trader;
            case PRESENT:
                return role == TRADER || role == PORT;
            case LEAVE:
                return role == PORT;
            default:
                return role == OFFICER;
        }
    }

    private static boolean isOfficersAct(int kind) {
        return kind >= ACCEPT && kind <= BAD || kind == REVIEW;
    }

    private boolean isOpenAt(int time) {
        int hour = time % HOURS_A_DAY;
        return hour >= opens && hour < closes;
    }

    private static final class Declaration {
        final int number;
        final int kind;
        final int trader;
        int state;
        int marks;
        int bars;
        int changed;
        int asker;
        int reason;
        int writings;
        Event firstWritten;
        Event lastWritten;

        Declaration(int number, int kind, int trader) {
            this.number = number;
            this.kind = kind;
            this.trader = trader;
            this.state = PREPARED;
            this.asker = NONE;
        }

        boolean isMarked(int mark) {
            return (marks & mark) != 0;
        }

        boolean hasBar(int bar) {
            return (bars & 1 << bar) != 0;
        }

        boolean isOver() {
            return state == INVALIDATED || state == CLEARED;
        }

        boolean stateAllows(int act) {
            switch (act) {
                case LODGE:
                    return state == PREPARED;
                case PRESENT:
                    return state == PREPARED || state == LODGED || state == ACCEPTED;
                case ACCEPT:
                    return state == LODGED;
                case SELECT:
                    return state == ACCEPTED;
                case GOOD:
                case BAD:
                    return state == UNDER_CHECK;
                case PAY:
                case MEND:
                    return state == ACCEPTED || state == UNDER_CHECK;
                case LEAVE:
                    return state == RELEASED && kind != IMPORT;
                case REVIEW:
                    return state == RELEASED && kind == IMPORT || state == LEFT;
                default:
                    return false;
            }
        }

        boolean marksAllow(int act) {
            switch (act) {
                case PRESENT:
                    return !isMarked(PRESENTED);
                case ACCEPT:
                    return kind == EXPORT || isMarked(PRESENTED);
                case PAY:
                    return !isMarked(PAID);
                case MEND:
                    return isMarked(FAULTY);
                default:
                    return true;
            }
        }

        void carryOut(int act, int time) {
            switch (act) {
                case LODGE:
                    become(LODGED, time);
                    break;
                case PRESENT:
                    marks |= PRESENTED;
                    break;
                case ACCEPT:
                case GOOD:
                    become(ACCEPTED, time);
                    break;
                case SELECT:
                    become(UNDER_CHECK, time);
                    break;
                case BAD:
                    marks |= FAULTY;
                    become(ACCEPTED, time);
                    break;
                case PAY:
                    marks |= PAID;
                    break;
                case LEAVE:
                    become(LEFT, time);
                    break;
                case REVIEW:
                    become(CLEARED, time);
                    break;
                case MEND:
                    marks &= ~FAULTY;
                    break;
                default:
                    break;
            }
            releaseIfNothingHolds(time);
        }

        void releaseIfNothingHolds(int time) {
            boolean paid = kind != IMPORT || isMarked(PAID);
            if (state == ACCEPTED && bars == 0 && !isMarked(FAULTY) && isMarked(PRESENTED) && paid) {
                become(RELEASED, time);
            }
        }

        int requestInvalidation(int who, int why, int time) {
            switch (state) {
                case PREPARED:
                case LODGED:
                    return invalidateFor(why, time);
                case ACCEPTED:
                case UNDER_CHECK:
                    return why == 0 ? REQUEST_REFUSED : invalidateFor(why, time);
                case RELEASED:
                    return why == 0 ? REQUEST_REFUSED : requestAsOneOfTwo(who, why, time);
                default:
                    return REQUEST_REFUSED;
            }
        }

        int requestAsOneOfTwo(int who, int why, int time) {
            if (asker == NONE) {
                asker = who;
                return REQUEST_WAITS;
            }
            return asker == who ? REQUEST_REFUSED : invalidateFor(why, time);
        }

        int invalidateFor(int why, int time) {
            reason = why;
            become(INVALIDATED, time);
            return REQUEST_DONE;
        }

        void become(int next, int time) {
            state = next;
            changed = time;
            // A request for invalidation stays only as long as the state does.
            asker = NONE;
        }

        void write(Event settled) {
            settled.next = null;
            if (lastWritten == null) {
                firstWritten = settled;
            } else {
                lastWritten.next = settled;
            }
            lastWritten = settled;
            writings++;
        }

        Event writtenAt(int place) {
            if (place < 0 || place >= writings) {
                return null;
            }
            Event found = firstWritten;
            for (int i = 0; i < place && found != null; i++) {
                found = found.next;
            }
            return found;
        }
    }

    private static final class Event {
        final Declaration declaration;
        final int kind;
        final int who;
        final int time;
        int result;
        // An event stands in one chain at a time: of those that wait, or of its declaration's written ones.
        Event next;

        Event(Declaration declaration, int kind, int who, int time) {
            this.declaration = declaration;
            this.kind = kind;
            this.who = who;
            this.time = time;
            this.result = NONE;
        }

        // No result equals NONE: a state is 0 or more, a refusal -2 or less.
        boolean isWaiting() {
            return result == NONE;
        }

        // Of equal ones the newer is not ahead, which keeps them as they were told.
        boolean goesAheadOf(Event other) {
            return time < other.time || time == other.time && kind < other.kind;
        }
    }
}
