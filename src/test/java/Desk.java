/** An object with people of every role, open all day, and short ways to bring declarations somewhere. */
final class Desk {
    static final int OWNER = 0;
    static final int TRADER = 1;
    static final int OFFICER = 2;
    static final int OFFICER_TWO = 3;
    static final int PORT = 4;

    static final int IMPORT = 0;
    static final int EXPORT = 1;
    static final int TRANSIT = 2;

    static final int PREPARED = 0;
    static final int LODGED = 1;
    static final int ACCEPTED = 2;
    static final int UNDER_CHECK = 3;
    static final int RELEASED = 4;
    static final int LEFT = 5;
    static final int INVALIDATED = 6;
    static final int CLEARED = 7;

    static final int LODGE = 0;
    static final int PRESENT = 1;
    static final int ACCEPT = 2;
    static final int SELECT = 3;
    static final int GOOD = 4;
    static final int BAD = 5;
    static final int PAY = 6;
    static final int LEAVE = 7;
    static final int REVIEW = 8;
    static final int MEND = 9;

    final DeclareStates x = new DeclareStates();

    Desk() {
        x.person(0);
        x.person(0);
        x.person(1);
        x.person(1);
        x.person(2);
        x.hours(0, 24);
    }

    /** Tells an event for the next hour, lets that hour come, and answers the event's result. */
    int act(int declaration, int kind, int who) {
        int time = x.count(4) + 1;
        int event = x.event(declaration, kind, who, time);
        x.tick(time);
        return x.of(event, 5);
    }

    /** A new declaration in a state; one that waits in ACCEPTED or UNDER CHECK is held by bar 0 alone. */
    int inState(int kind, int state) {
        int d = x.declaration(kind, OWNER);
        if (state == PREPARED) {
            return d;
        }
        if (state == INVALIDATED) {
            x.invalidate(d, OFFICER, 0);
            return d;
        }
        act(d, LODGE, OWNER);
        if (state == LODGED) {
            return d;
        }
        x.bar(d, 0, true);
        act(d, PRESENT, PORT);
        act(d, ACCEPT, OFFICER);
        act(d, PAY, OWNER);
        if (state == ACCEPTED) {
            return d;
        }
        if (state == UNDER_CHECK) {
            act(d, SELECT, OFFICER);
            return d;
        }
        x.bar(d, 0, false);
        if (state == RELEASED) {
            return d;
        }
        if (kind != IMPORT) {
            act(d, LEAVE, PORT);
        }
        if (state == CLEARED) {
            act(d, REVIEW, OFFICER);
        }
        return d;
    }

    /**
     * A new declaration in ACCEPTED or UNDER CHECK with exactly these marks, held by bar 0.
     * Import and transit are never there without being PRESENTED.
     */
    int held(int kind, int state, int marks) {
        int d = x.declaration(kind, OWNER);
        x.bar(d, 0, true);
        act(d, LODGE, OWNER);
        if ((marks & 1) != 0) {
            act(d, PRESENT, PORT);
        }
        act(d, ACCEPT, OFFICER);
        if ((marks & 2) != 0) {
            act(d, PAY, OWNER);
        }
        if ((marks & 4) != 0) {
            act(d, SELECT, OFFICER);
            act(d, BAD, OFFICER);
        }
        if (state == UNDER_CHECK) {
            act(d, SELECT, OFFICER);
        }
        return d;
    }

    /** Whether held can bring a kind of declaration to such marks. */
    static boolean canHold(int kind, int marks) {
        return kind == EXPORT || (marks & 1) != 0;
    }

    /** Whether inState can bring a kind of declaration there: an import never leaves. */
    static boolean reaches(int kind, int state) {
        return kind != IMPORT || state != LEFT;
    }
}
