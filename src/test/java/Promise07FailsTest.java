public final class Promise07FailsTest {
    private static final Checks C = new Checks();

    public static void main(String[] args) {
        answers();
        failsOnce();
        firstInOrderFails();
        toldNotToFail();
        C.end();
    }

    private static void answers() {
        DeclareStates x = new DeclareStates();
        C.due("fails(-1, true)", false, x.fails(-1, true));
        C.due("fails(10, true)", false, x.fails(10, true));
        C.due("fails(32, true)", false, x.fails(32, true));
        C.due("fails(-1, false)", false, x.fails(-1, false));
        for (int kind = 0; kind < 10; kind++) {
            C.due("not failing is so", false, x.fails(kind, false));
            C.due("told to fail", true, x.fails(kind, true));
            C.due("failing is so", false, x.fails(kind, true));
        }
        for (int kind = 0; kind < 10; kind++) {
            C.due("told not to fail", true, x.fails(kind, false));
        }
    }

    private static void failsOnce() {
        Desk desk = new Desk();
        int d = desk.inState(Desk.EXPORT, Desk.PREPARED);
        desk.x.fails(Desk.LODGE, true);
        C.due("another kind does not fail", Desk.PREPARED, desk.act(d, Desk.PRESENT, Desk.OWNER));
        C.due("LODGE fails", -2, desk.act(d, Desk.LODGE, Desk.OWNER));
        C.due("nothing changed", Desk.PREPARED, desk.x.look(d, 0));
        C.due("no change is told", 0, desk.x.look(d, 6));
        C.due("it fails no more", false, desk.x.fails(Desk.LODGE, false));
        C.due("LODGE goes", Desk.LODGED, desk.act(d, Desk.LODGE, Desk.OWNER));
    }

    private static void firstInOrderFails() {
        DeclareStates x = new Desk().x;
        x.declaration(0, Desk.OWNER);
        x.declaration(0, Desk.OWNER);
        x.event(0, Desk.LODGE, Desk.OWNER, 6);
        x.event(1, Desk.LODGE, Desk.OWNER, 5);
        x.fails(Desk.LODGE, true);
        x.tick(10);
        C.due("the later one goes", Desk.LODGED, x.of(0, 5));
        C.due("the earlier one fails", -2, x.of(1, 5));
    }

    private static void toldNotToFail() {
        Desk desk = new Desk();
        int d = desk.inState(Desk.EXPORT, Desk.PREPARED);
        desk.x.fails(Desk.LODGE, true);
        desk.x.fails(Desk.LODGE, false);
        C.due("LODGE goes", Desk.LODGED, desk.act(d, Desk.LODGE, Desk.OWNER));
    }
}
