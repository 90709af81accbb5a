public final class Promise08BarTest {
    private static final Checks C = new Checks();

    public static void main(String[] args) {
        wrongInputs();
        countsAndBits();
        everyState();
        lastBarReleases();
        barHolds();
        barGoesButSomethingHolds();
        C.end();
    }

    private static void wrongInputs() {
        DeclareStates x = new Desk().x;
        x.declaration(0, Desk.OWNER);
        C.badArgument("declaration -1", () -> x.bar(-1, 0, true));
        C.badArgument("declaration 1", () -> x.bar(1, 0, true));
        C.badArgument("kind -1", () -> x.bar(0, -1, true));
        C.badArgument("kind 8", () -> x.bar(0, 8, true));
        C.badArgument("kind 32", () -> x.bar(0, 32, true));
        x.invalidate(0, Desk.OFFICER, 0);
        C.badArgument("kind 8 of an invalidated one", () -> x.bar(0, 8, true));
        C.due("no bars", 0, x.look(0, 4));
    }

    private static void countsAndBits() {
        DeclareStates x = new Desk().x;
        x.declaration(0, Desk.OWNER);
        x.declaration(0, Desk.OWNER);
        for (int kind = 0; kind < 8; kind++) {
            C.due("off is so", -1, x.bar(0, kind, false));
            C.due("on", kind + 1, x.bar(0, kind, true));
            C.due("on is so", -1, x.bar(0, kind, true));
            C.due("bits", (2 << kind) - 1, x.look(0, 4));
        }
        C.due("bar 3 off", 7, x.bar(0, 3, false));
        C.due("bits without 3", 255 - 8, x.look(0, 4));
        C.due("the other one has none", 0, x.look(1, 4));
    }

    private static void everyState() {
        for (int kind = 0; kind < 3; kind++) {
            for (int state = 0; state < 8; state++) {
                if (Desk.reaches(kind, state)) {
                    checkState(kind, state);
                }
            }
        }
    }

    private static void checkState(int kind, int state) {
        Desk desk = new Desk();
        int d = desk.inState(kind, state);
        boolean over = state == Desk.INVALIDATED || state == Desk.CLEARED;
        int had = Integer.bitCount(desk.x.look(d, 4));
        String call = "bar of kind " + kind + " in state " + state;
        C.due(call + " on", over ? -1 : had + 1, desk.x.bar(d, 7, true));
        C.due(call + " stays", state, desk.x.look(d, 0));
        C.due(call + " off", over ? -1 : had, desk.x.bar(d, 7, false));
        C.due(call + " stays so", state, desk.x.look(d, 0));
    }

    private static void lastBarReleases() {
        Desk desk = new Desk();
        int d = desk.inState(Desk.IMPORT, Desk.ACCEPTED);
        int writings = desk.x.look(d, 5);
        desk.x.bar(d, 5, true);
        desk.x.tick(77);
        C.due("one of two goes", 1, desk.x.bar(d, 0, false));
        C.due("still held", Desk.ACCEPTED, desk.x.look(d, 0));
        C.due("the last goes", 0, desk.x.bar(d, 5, false));
        C.due("released at once", Desk.RELEASED, desk.x.look(d, 0));
        C.due("released now", 77, desk.x.look(d, 6));
        C.due("nothing is written of it", writings, desk.x.look(d, 5));
    }

    private static void barHolds() {
        Desk desk = new Desk();
        int d = desk.x.declaration(Desk.EXPORT, Desk.OWNER);
        desk.x.bar(d, 7, true);
        desk.act(d, Desk.PRESENT, Desk.PORT);
        desk.act(d, Desk.LODGE, Desk.OWNER);
        C.due("ACCEPT with a bar", Desk.ACCEPTED, desk.act(d, Desk.ACCEPT, Desk.OFFICER));
        int left = desk.inState(Desk.EXPORT, Desk.RELEASED);
        desk.x.bar(left, 1, true);
        C.due("LEAVE with a bar", Desk.LEFT, desk.act(left, Desk.LEAVE, Desk.PORT));
        C.due("REVIEW with a bar", Desk.CLEARED, desk.act(left, Desk.REVIEW, Desk.OFFICER));
        C.due("the bar of a cleared one stays", -1, desk.x.bar(left, 1, false));
        C.due("its bits stay", 2, desk.x.look(left, 4));
    }

    private static void barGoesButSomethingHolds() {
        Desk desk = new Desk();
        int unpaid = desk.x.declaration(Desk.IMPORT, Desk.OWNER);
        desk.act(unpaid, Desk.PRESENT, Desk.PORT);
        desk.act(unpaid, Desk.LODGE, Desk.OWNER);
        desk.act(unpaid, Desk.ACCEPT, Desk.OFFICER);
        goes(desk, unpaid, "not PAID");
        int hidden = desk.x.declaration(Desk.EXPORT, Desk.OWNER);
        desk.act(hidden, Desk.LODGE, Desk.OWNER);
        desk.act(hidden, Desk.ACCEPT, Desk.OFFICER);
        goes(desk, hidden, "not PRESENTED");
        int faulty = desk.inState(Desk.TRANSIT, Desk.UNDER_CHECK);
        desk.act(faulty, Desk.BAD, Desk.OFFICER);
        desk.x.bar(faulty, 0, false);
        goes(desk, faulty, "FAULTY");
    }

    private static void goes(Desk desk, int declaration, String why) {
        desk.x.bar(declaration, 2, true);
        C.due("the bar goes, " + why, 0, desk.x.bar(declaration, 2, false));
        C.due("the state, " + why, Desk.ACCEPTED, desk.x.look(declaration, 0));
    }
}
