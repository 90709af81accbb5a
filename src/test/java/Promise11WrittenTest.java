public final class Promise11WrittenTest {
    private static final Checks C = new Checks();

    public static void main(String[] args) {
        wrongInputs();
        resultsAndKinds();
        eachDeclarationItsOwn();
        allOnOne();
        C.end();
    }

    private static void wrongInputs() {
        DeclareStates x = new Desk().x;
        x.declaration(0, Desk.OWNER);
        C.badArgument("declaration -1", () -> x.written(-1, 0));
        C.badArgument("declaration 1", () -> x.written(1, 0));
        C.badArgument("declaration 20", () -> x.written(20, 0));
        x.event(0, Desk.LODGE, Desk.OWNER, 5);
        C.due("while it waits", -1, x.written(0, 0));
        x.tick(5);
        C.due("behind it", 16 * (1 + 8), x.written(0, 0));
        C.due("place -1", -1, x.written(0, -1));
        C.due("place 1", -1, x.written(0, 1));
        C.due("place MAX", -1, x.written(0, Integer.MAX_VALUE));
        C.due("place MIN", -1, x.written(0, Integer.MIN_VALUE));
    }

    private static void resultsAndKinds() {
        Desk desk = new Desk();
        int d = desk.x.declaration(Desk.EXPORT, Desk.OWNER);
        desk.x.fails(Desk.LEAVE, true);
        desk.act(d, Desk.LEAVE, Desk.PORT);
        desk.act(d, Desk.PAY, Desk.TRADER);
        desk.act(d, Desk.MEND, Desk.OWNER);
        desk.act(d, Desk.PRESENT, Desk.PORT);
        desk.act(d, Desk.PRESENT, Desk.PORT);
        desk.act(d, Desk.LODGE, Desk.OWNER);
        desk.act(d, Desk.ACCEPT, Desk.OFFICER);
        desk.act(d, Desk.LEAVE, Desk.PORT);
        desk.act(d, Desk.REVIEW, Desk.OFFICER);
        int[] results = {-2, -3, -5, 0, -6, 1, 4, 5, 7};
        int[] kinds = {7, 6, 9, 1, 1, 0, 2, 7, 8};
        for (int i = 0; i < results.length; i++) {
            C.due("written " + i, 16 * (results[i] + 8) + kinds[i], desk.x.written(d, i));
        }
        C.due("behind the last", -1, desk.x.written(d, results.length));
    }

    private static void eachDeclarationItsOwn() {
        DeclareStates x = new Desk().x;
        x.declaration(0, Desk.OWNER);
        x.declaration(0, Desk.OWNER);
        x.event(0, Desk.PRESENT, Desk.OWNER, 3);
        x.event(1, Desk.LODGE, Desk.OWNER, 2);
        x.event(0, Desk.LODGE, Desk.OWNER, 1);
        x.event(1, Desk.PRESENT, Desk.OWNER, 4);
        x.tick(4);
        C.due("first of 0", 16 * 9, x.written(0, 0));
        C.due("second of 0", 16 * 9 + 1, x.written(0, 1));
        C.due("third of 0", -1, x.written(0, 2));
        C.due("first of 1", 16 * 9, x.written(1, 0));
        C.due("second of 1", 16 * 9 + 1, x.written(1, 1));
        C.due("third of 1", -1, x.written(1, 2));
    }

    private static void allOnOne() {
        DeclareStates x = new Desk().x;
        x.declaration(0, Desk.OWNER);
        for (int i = 0; i < 120; i++) {
            x.event(0, i % 2 == 0 ? Desk.PAY : Desk.MEND, Desk.OWNER, i + 1);
            x.tick(i + 1);
        }
        C.due("written in all", 120, x.look(0, 5));
        for (int i = 0; i < 120; i++) {
            C.due("written " + i, 16 * 3 + (i % 2 == 0 ? 6 : 9), x.written(0, i));
        }
    }
}
