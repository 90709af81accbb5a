public final class Promise13CountTest {
    private static final Checks C = new Checks();

    public static void main(String[] args) {
        otherWhats();
        whatIsThere();
        states();
        C.end();
    }

    private static void otherWhats() {
        DeclareStates x = new Desk().x;
        x.declaration(0, Desk.OWNER);
        int[] none = {-1, 5, 6, 7, 8, 9, 18, 19, 100, Integer.MIN_VALUE, Integer.MIN_VALUE + 10, Integer.MAX_VALUE};
        for (int what : none) {
            C.due("count(" + what + ")", -1, x.count(what));
        }
    }

    private static void whatIsThere() {
        DeclareStates x = new Desk().x;
        x.declaration(0, Desk.OWNER);
        x.declaration(0, Desk.OWNER);
        x.event(0, Desk.LODGE, Desk.OWNER, 10);
        x.event(0, Desk.LODGE, Desk.OWNER, 20);
        x.event(0, Desk.LODGE, Desk.OWNER, 30);
        x.tick(25);
        C.due("people", 5, x.count(0));
        C.due("declarations", 2, x.count(1));
        C.due("events", 3, x.count(2));
        C.due("waiting", 1, x.count(3));
        C.due("NOW", 25, x.count(4));
    }

    private static void states() {
        Desk desk = new Desk();
        int[] want = {3, 1, 2, 1, 2, 1, 2, 3};
        for (int state = 0; state < 8; state++) {
            for (int i = 0; i < want[state]; i++) {
                desk.inState(Desk.EXPORT, state);
            }
        }
        for (int state = 0; state < 8; state++) {
            C.due("in state " + state, want[state], desk.x.count(10 + state));
        }
        C.due("declarations", 15, desk.x.count(1));
    }
}
