public final class Promise09InvalidateTest {
    private static final Checks C = new Checks();

    public static void main(String[] args) {
        wrongInputs();
        everyState();
        officersAlone();
        byTwo();
        requestEndsWithTheState();
        requestSurvivesWhatChangesNoState();
        hoursDoNotMatter();
        C.end();
    }

    private static void wrongInputs() {
        DeclareStates x = new Desk().x;
        x.declaration(0, Desk.OWNER);
        C.badArgument("declaration -1", () -> x.invalidate(-1, Desk.OFFICER, 1));
        C.badArgument("declaration 1", () -> x.invalidate(1, Desk.OFFICER, 1));
        C.badArgument("nobody -1", () -> x.invalidate(0, -1, 1));
        C.badArgument("nobody 5", () -> x.invalidate(0, 5, 1));
        C.badArgument("reason -1", () -> x.invalidate(0, Desk.OFFICER, -1));
        C.badArgument("reason 10", () -> x.invalidate(0, Desk.OFFICER, 10));
        C.badArgument("reason 10 by a trader", () -> x.invalidate(0, Desk.OWNER, 10));
        C.due("nothing changed", Desk.PREPARED, x.look(0, 0));
    }

    private static void everyState() {
        // Answers due per state: without a reason, and with one.
        int[] without = {1, 1, 0, 0, 0, 0, 0, 0};
        int[] with = {1, 1, 1, 1, 2, 0, 0, 0};
        for (int kind = 0; kind < 3; kind++) {
            for (int state = 0; state < 8; state++) {
                if (Desk.reaches(kind, state)) {
                    checkAnswer(kind, state, 0, without[state]);
                    checkAnswer(kind, state, 1, with[state]);
                    checkAnswer(kind, state, 9, with[state]);
                }
            }
        }
    }

    private static void checkAnswer(int kind, int state, int reason, int want) {
        Desk desk = new Desk();
        int d = desk.inState(kind, state);
        int changed = desk.x.look(d, 6);
        desk.x.tick(90);
        String call = "kind " + kind + " in state " + state + " for reason " + reason;
        C.due(call, want, desk.x.invalidate(d, Desk.OFFICER, reason));
        C.due("state, " + call, want == 1 ? Desk.INVALIDATED : state, desk.x.look(d, 0));
        C.due("reason, " + call, want == 1 ? reason : 0, desk.x.look(d, 8));
        C.due("changed, " + call, want == 1 ? 90 : changed, desk.x.look(d, 6));
        C.due("asker, " + call, want == 2 ? Desk.OFFICER : -1, desk.x.look(d, 7));
    }

    private static void officersAlone() {
        for (int state = 0; state < 8; state++) {
            Desk desk = new Desk();
            int d = desk.inState(Desk.EXPORT, state);
            C.due("by the owner", 0, desk.x.invalidate(d, Desk.OWNER, 3));
            C.due("by a trader", 0, desk.x.invalidate(d, Desk.TRADER, 3));
            C.due("by the port", 0, desk.x.invalidate(d, Desk.PORT, 3));
            C.due("the state stays", state, desk.x.look(d, 0));
            C.due("no asker", -1, desk.x.look(d, 7));
        }
    }

    private static void byTwo() {
        Desk desk = new Desk();
        int d = desk.inState(Desk.IMPORT, Desk.RELEASED);
        C.due("the first", 2, desk.x.invalidate(d, Desk.OFFICER, 4));
        C.due("the same again", 0, desk.x.invalidate(d, Desk.OFFICER, 6));
        C.due("the second without a reason", 0, desk.x.invalidate(d, Desk.OFFICER_TWO, 0));
        C.due("no reason yet", 0, desk.x.look(d, 8));
        C.due("the first waits", Desk.OFFICER, desk.x.look(d, 7));
        C.due("the second", 1, desk.x.invalidate(d, Desk.OFFICER_TWO, 5));
        C.due("the state", Desk.INVALIDATED, desk.x.look(d, 0));
        C.due("the second one's reason", 5, desk.x.look(d, 8));
        C.due("nobody waits", -1, desk.x.look(d, 7));
        C.due("invalidated already", 0, desk.x.invalidate(d, Desk.OFFICER, 5));
        C.due("an event for it", -5, desk.act(d, Desk.REVIEW, Desk.OFFICER));
    }

    private static void requestEndsWithTheState() {
        Desk desk = new Desk();
        int export = desk.inState(Desk.EXPORT, Desk.RELEASED);
        desk.x.invalidate(export, Desk.OFFICER, 4);
        desk.act(export, Desk.LEAVE, Desk.PORT);
        C.due("asker behind LEAVE", -1, desk.x.look(export, 7));
        C.due("a LEFT one", 0, desk.x.invalidate(export, Desk.OFFICER_TWO, 4));
        int entry = desk.inState(Desk.IMPORT, Desk.RELEASED);
        desk.x.invalidate(entry, Desk.OFFICER, 4);
        desk.act(entry, Desk.REVIEW, Desk.OFFICER);
        C.due("asker behind REVIEW", -1, desk.x.look(entry, 7));
    }

    private static void requestSurvivesWhatChangesNoState() {
        Desk desk = new Desk();
        int d = desk.inState(Desk.EXPORT, Desk.RELEASED);
        desk.x.invalidate(d, Desk.OFFICER, 4);
        desk.act(d, Desk.LEAVE, Desk.OWNER);
        desk.act(d, Desk.PAY, Desk.OWNER);
        desk.x.bar(d, 1, true);
        desk.x.bar(d, 1, false);
        C.due("the asker stays", Desk.OFFICER, desk.x.look(d, 7));
        C.due("the second", 1, desk.x.invalidate(d, Desk.OFFICER_TWO, 9));
    }

    private static void hoursDoNotMatter() {
        Desk desk = new Desk();
        int d = desk.inState(Desk.EXPORT, Desk.LODGED);
        desk.x.hours(23, 24);
        C.due("outside of the hours", 1, desk.x.invalidate(d, Desk.OFFICER, 0));
    }
}
