/**
 * "RELEASE: an ACCEPTED declaration becomes RELEASED at once, behind any event that was carried out for it, or when a
 * bar goes, if: it has no BARS, is not FAULTY, is PRESENTED, and of import PAID."
 */
public final class Edge05ReleaseTest {
    private static final Checks C = new Checks();

    public static void main(String[] args) {
        for (int kind = 0; kind <= 2; kind++) {
            behindAccept(kind);
            for (int marks = 0; marks <= 7; marks++) {
                if (Desk.canHold(kind, marks)) {
                    behindGood(kind, marks);
                    behindBad(kind, marks);
                    behindMarks(kind, marks);
                    whenABarGoes(kind, marks);
                    notUnderCheck(kind, marks);
                }
            }
        }
        notAheadOfAccepted();
        notBehindRefused();
        C.end();
    }

    private static boolean nothingHolds(int kind, int marks) {
        boolean faulty = (marks & 4) != 0;
        boolean presented = (marks & 1) != 0;
        boolean paid = (marks & 2) != 0;
        return !faulty && presented && (kind != Desk.IMPORT || paid);
    }

    private static int dueState(int kind, int marks, boolean barred) {
        return !barred && nothingHolds(kind, marks) ? Desk.RELEASED : Desk.ACCEPTED;
    }

    private static Scene without(Scene scene) {
        return scene.then("the bar goes", x -> x.bar(0, 0, false));
    }

    private static void behindAccept(int kind) {
        for (int presented = 0; presented <= 1; presented++) {
            boolean told = presented == 1;
            Scene lodged = Scenes.inState(C, kind, Desk.LODGED).then("PRESENTED " + told, x -> {
                x.event(0, Desk.PRESENT, told ? Desk.PORT : Desk.OFFICER, 5);
                x.tick(5);
            });
            if (Desk.canHold(kind, presented)) {
                lodged.done(0, Desk.ACCEPT, Desk.OFFICER, 6, dueState(kind, presented, false));
                lodged.then("a bar", x -> x.bar(0, 7, true)).done(0, Desk.ACCEPT, Desk.OFFICER, 6, Desk.ACCEPTED);
            }
        }
    }

    private static void behindGood(int kind, int marks) {
        Scene barred = Scenes.held(C, kind, Desk.UNDER_CHECK, marks);
        barred.done(0, Desk.GOOD, Desk.OFFICER, 50, Desk.ACCEPTED);
        DeclareStates x = without(barred).done(0, Desk.GOOD, Desk.OFFICER, 50, dueState(kind, marks, false));
        C.due("the state is the result", dueState(kind, marks, false), x.look(0, 0));
        C.due("when it changed", 50, x.look(0, 6));
    }

    private static void behindBad(int kind, int marks) {
        without(Scenes.held(C, kind, Desk.UNDER_CHECK, marks)).done(0, Desk.BAD, Desk.OFFICER, 50, Desk.ACCEPTED);
    }

    // PRESENT, PAY and MEND each take one thing away that holds; only the last such releases.
    private static void behindMarks(int kind, int marks) {
        if (nothingHolds(kind, marks)) {
            return;
        }
        Scene barred = Scenes.held(C, kind, Desk.ACCEPTED, marks);
        for (int act : new int[] {Desk.PRESENT, Desk.PAY, Desk.MEND}) {
            if (ActTable.due(barred.make(), 0, act, Desk.OWNER) == Desk.ACCEPTED) {
                int due = dueState(kind, ActTable.marksBehind(act, marks), false);
                DeclareStates x = without(barred).done(0, act, Desk.OWNER, 50, due);
                C.due("released then", due == Desk.RELEASED ? 50 : barred.make().look(0, 6), x.look(0, 6));
                barred.done(0, act, Desk.OWNER, 50, Desk.ACCEPTED);
            }
        }
    }

    private static void whenABarGoes(int kind, int marks) {
        Scene two = Scenes.held(C, kind, Desk.ACCEPTED, marks).then("another bar at 60", x -> {
            x.bar(0, 7, true);
            x.tick(60);
        });
        int since = two.make().look(0, 6);
        DeclareStates one = two.taken("the first goes", 1, x -> x.bar(0, 0, false));
        C.due("one bar holds", Desk.ACCEPTED, one.look(0, 0));
        C.due("the last goes", 0, one.bar(0, 7, false));
        int due = dueState(kind, marks, false);
        C.due("no bar holds", due, one.look(0, 0));
        C.due("when it changed", due == Desk.RELEASED ? 60 : since, one.look(0, 6));
    }

    private static void notUnderCheck(int kind, int marks) {
        Scene barred = Scenes.held(C, kind, Desk.UNDER_CHECK, marks);
        DeclareStates x = barred.taken("the bar goes", 0, y -> y.bar(0, 0, false));
        C.due("still under check", Desk.UNDER_CHECK, x.look(0, 0));
        for (int act : new int[] {Desk.PAY, Desk.MEND}) {
            if (ActTable.due(barred.make(), 0, act, Desk.OWNER) >= 0) {
                without(barred).done(0, act, Desk.OWNER, 50, Desk.UNDER_CHECK);
            }
        }
    }

    private static void notAheadOfAccepted() {
        for (int state : new int[] {Desk.PREPARED, Desk.LODGED}) {
            Scene barred = Scenes.inState(C, Desk.EXPORT, state).then("a bar", x -> x.bar(0, 3, true));
            barred.done(0, Desk.PRESENT, Desk.PORT, 50, state);
            Scene presented = barred.then("PRESENTED", x -> {
                x.event(0, Desk.PRESENT, Desk.PORT, 50);
                x.tick(50);
            });
            DeclareStates x = presented.taken("the bar goes", 0, y -> y.bar(0, 3, false));
            C.due("the state stays", state, x.look(0, 0));
        }
    }

    private static void notBehindRefused() {
        Scene unpaid = Scenes.held(C, Desk.IMPORT, Desk.ACCEPTED, 1).then("no bar", x -> x.bar(0, 0, false));
        unpaid.refusedEvent(0, Desk.PAY, Desk.TRADER, 50, 2);
        unpaid.then("PAY fails", x -> x.fails(Desk.PAY, true)).refusedEvent(0, Desk.PAY, Desk.OWNER, 50, 1);
        unpaid.done(0, Desk.PAY, Desk.OWNER, 50, Desk.RELEASED);
    }
}
