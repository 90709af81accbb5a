/** The document's table of acts: which result is due for an act of the desk's people, RELEASE left aside. */
final class ActTable {
    static final int BY_ROLE = -3;
    static final int BY_STATE = -5;
    static final int BY_MARK = -6;

    // Per act the states from which it goes.
    private static final String[] FROM = {"0", "012", "1", "2", "3", "3", "23", "4", "45", "23"};

    // Per act who may tell it: o the own trader, t another trader, f an officer, p the port.
    private static final String[] BY = {"o", "otp", "f", "f", "f", "f", "o", "p", "f", "o"};

    // Per act the state behind it; = where it stays.
    private static final String BEHIND = "1=2322=57=";

    private ActTable() {
    }

    static int due(DeclareStates x, int declaration, int act, int who) {
        int state = x.look(declaration, 0);
        int kind = x.look(declaration, 1);
        int marks = x.look(declaration, 3);
        if (BY[act].indexOf("otffp".charAt(who)) < 0) {
            return BY_ROLE;
        }
        if (FROM[act].indexOf('0' + state) < 0 || !kindGoes(act, kind, state)) {
            return BY_STATE;
        }
        if (!marksGo(act, kind, marks)) {
            return BY_MARK;
        }
        char behind = BEHIND.charAt(act);
        return behind == '=' ? state : behind - '0';
    }

    private static boolean kindGoes(int act, int kind, int state) {
        if (act == Desk.LEAVE) {
            return kind != Desk.IMPORT;
        }
        return act != Desk.REVIEW || state == Desk.LEFT || kind == Desk.IMPORT;
    }

    private static boolean marksGo(int act, int kind, int marks) {
        boolean presented = (marks & 1) != 0;
        boolean paid = (marks & 2) != 0;
        boolean faulty = (marks & 4) != 0;
        return switch (act) {
            case Desk.PRESENT -> !presented;
            case Desk.ACCEPT -> presented || kind == Desk.EXPORT;
            case Desk.PAY -> !paid;
            case Desk.MEND -> faulty;
            default -> true;
        };
    }

    static int marksBehind(int act, int marks) {
        return switch (act) {
            case Desk.PRESENT -> marks | 1;
            case Desk.PAY -> marks | 2;
            case Desk.BAD -> marks | 4;
            case Desk.MEND -> marks & ~4;
            default -> marks;
        };
    }
}
