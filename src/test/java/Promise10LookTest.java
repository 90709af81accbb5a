public final class Promise10LookTest {
    private static final Checks C = new Checks();

    public static void main(String[] args) {
        wrongInputs();
        aNewOne();
        alongItsWay();
        C.end();
    }

    private static void wrongInputs() {
        DeclareStates x = new Desk().x;
        x.declaration(0, Desk.OWNER);
        C.badIndex("declaration -1", () -> x.look(-1, 0));
        C.badIndex("declaration 1", () -> x.look(1, 0));
        C.badIndex("declaration 20", () -> x.look(20, 0));
        C.badIndex("declaration MAX", () -> x.look(Integer.MAX_VALUE, 0));
        C.badIndex("what -1", () -> x.look(0, -1));
        C.badIndex("what 9", () -> x.look(0, 9));
    }

    private static void looks(DeclareStates x, int declaration, int... want) {
        for (int what = 0; what < want.length; what++) {
            C.due("look(" + declaration + ", " + what + ") at " + x.count(4), want[what], x.look(declaration, what));
        }
    }

    private static void aNewOne() {
        DeclareStates x = new Desk().x;
        x.tick(40);
        x.declaration(Desk.TRANSIT, Desk.TRADER);
        looks(x, 0, Desk.PREPARED, Desk.TRANSIT, Desk.TRADER, 0, 0, 0, 0, -1, 0);
    }

    private static void alongItsWay() {
        Desk desk = new Desk();
        DeclareStates x = desk.x;
        x.declaration(Desk.IMPORT, Desk.TRADER);
        int d = x.declaration(Desk.IMPORT, Desk.OWNER);
        desk.act(d, Desk.LODGE, Desk.OWNER);
        looks(x, d, Desk.LODGED, Desk.IMPORT, Desk.OWNER, 0, 0, 1, 1, -1, 0);
        desk.act(d, Desk.PRESENT, Desk.PORT);
        looks(x, d, Desk.LODGED, Desk.IMPORT, Desk.OWNER, 1, 0, 2, 1, -1, 0);
        desk.act(d, Desk.ACCEPT, Desk.OFFICER);
        desk.act(d, Desk.SELECT, Desk.OFFICER);
        desk.act(d, Desk.BAD, Desk.OFFICER);
        looks(x, d, Desk.ACCEPTED, Desk.IMPORT, Desk.OWNER, 5, 0, 5, 5, -1, 0);
        desk.act(d, Desk.PAY, Desk.OWNER);
        x.bar(d, 6, true);
        looks(x, d, Desk.ACCEPTED, Desk.IMPORT, Desk.OWNER, 7, 64, 6, 5, -1, 0);
        desk.act(d, Desk.MEND, Desk.OWNER);
        desk.act(d, Desk.MEND, Desk.OWNER);
        looks(x, d, Desk.ACCEPTED, Desk.IMPORT, Desk.OWNER, 3, 64, 8, 5, -1, 0);
        x.bar(d, 6, false);
        x.invalidate(d, Desk.OFFICER_TWO, 2);
        looks(x, d, Desk.RELEASED, Desk.IMPORT, Desk.OWNER, 3, 0, 8, 8, Desk.OFFICER_TWO, 0);
        x.tick(30);
        x.invalidate(d, Desk.OFFICER, 7);
        looks(x, d, Desk.INVALIDATED, Desk.IMPORT, Desk.OWNER, 3, 0, 8, 30, -1, 7);
        looks(x, 0, Desk.PREPARED, Desk.IMPORT, Desk.TRADER, 0, 0, 0, 0, -1, 0);
    }
}
