public final class Promise12OfTest {
    private static final Checks C = new Checks();

    public static void main(String[] args) {
        DeclareStates x = new Desk().x;
        x.declaration(Desk.IMPORT, Desk.OWNER);
        x.declaration(Desk.EXPORT, Desk.TRADER);
        C.badIndex("event 0 of none", () -> x.of(0, 0));
        x.event(1, Desk.ACCEPT, Desk.OFFICER_TWO, 33);
        x.event(1, Desk.LODGE, Desk.TRADER, 12);
        C.badIndex("event -1", () -> x.of(-1, 0));
        C.badIndex("event 2", () -> x.of(2, 0));
        C.badIndex("event 120", () -> x.of(120, 0));
        C.badIndex("what -1", () -> x.of(0, -1));
        C.badIndex("what 6", () -> x.of(0, 6));
        told(x, 0, 1, Desk.ACCEPT, Desk.OFFICER_TWO, 33, 1, -1);
        told(x, 1, 1, Desk.LODGE, Desk.TRADER, 12, 1, -1);
        x.tick(12);
        told(x, 0, 1, Desk.ACCEPT, Desk.OFFICER_TWO, 33, 1, -1);
        told(x, 1, 1, Desk.LODGE, Desk.TRADER, 12, 0, Desk.LODGED);
        x.tick(50);
        told(x, 0, 1, Desk.ACCEPT, Desk.OFFICER_TWO, 33, 0, Desk.ACCEPTED);
        x.event(0, Desk.LODGE, Desk.TRADER, 60);
        x.tick(60);
        told(x, 2, 0, Desk.LODGE, Desk.TRADER, 60, 0, -3);
        x.invalidate(1, Desk.OFFICER, 1);
        told(x, 0, 1, Desk.ACCEPT, Desk.OFFICER_TWO, 33, 0, Desk.ACCEPTED);
        C.end();
    }

    private static void told(DeclareStates x, int event, int... want) {
        for (int what = 0; what < want.length; what++) {
            C.due("of(" + event + ", " + what + ") at " + x.count(4), want[what], x.of(event, what));
        }
    }
}
