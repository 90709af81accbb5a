/** What it is: "An object is used for at most 512 calls after it has been made": the 512th is answered as the first. */
public final class Edge00ObjectTest {
    private static final int MOST_CALLS = 512;
    private static final Checks C = new Checks();

    public static void main(String[] args) {
        callsThatChange();
        callsThatRead();
        callsThatThrow();
        allRoomUsed();
        C.end();
    }

    private static DeclareStates withDeclaration() {
        DeclareStates x = new DeclareStates();
        x.person(0);
        x.person(1);
        x.declaration(0, 0);
        return x;
    }

    private static void callsThatChange() {
        DeclareStates barred = withDeclaration();
        DeclareStates failing = withDeclaration();
        DeclareStates ticked = withDeclaration();
        DeclareStates opened = withDeclaration();
        for (int i = 4; i <= MOST_CALLS; i++) {
            boolean on = i % 2 == 0;
            C.due("bar as call " + i, on ? 1 : 0, barred.bar(0, 7, on));
            C.due("fails as call " + i, true, failing.fails(9, on));
            C.due("tick as call " + i, 0, ticked.tick(i));
            C.due("hours as call " + i, true, opened.hours(i % 24, 24));
        }
    }

    private static void callsThatRead() {
        DeclareStates looked = withDeclaration();
        DeclareStates read = withDeclaration();
        DeclareStates counted = withDeclaration();
        for (int i = 4; i <= MOST_CALLS; i++) {
            C.due("look as call " + i, -1, looked.look(0, 7));
            C.due("written as call " + i, -1, read.written(0, 0));
            C.due("count as call " + i, 2, counted.count(0));
        }
    }

    private static void callsThatThrow() {
        DeclareStates x = withDeclaration();
        DeclareStates asked = withDeclaration();
        for (int i = 4; i <= MOST_CALLS; i++) {
            C.badArgument("event as call " + i, () -> x.event(0, 0, 0, 0));
            C.due("invalidate as call " + i, 0, asked.invalidate(0, 0, 1));
        }
    }

    private static void allRoomUsed() {
        DeclareStates x = new DeclareStates();
        int calls = 0;
        for (int i = 0; i < 12; i++, calls++) {
            C.due("person " + i, i, x.person(i % 2));
        }
        for (int i = 0; i < 20; i++, calls++) {
            C.due("declaration " + i, i, x.declaration(i % 3, i % 6 * 2));
        }
        for (int i = 0; i < 120; i++, calls += 2) {
            C.due("event " + i, i, x.event(i % 20, Desk.PRESENT, 0, i + 1));
            C.due("tick " + i, 1, x.tick(i + 1));
        }
        for (int i = 0; i < 120; i++, calls++) {
            C.due("result of " + i, i < 20 ? 0 : -6, x.of(i, 5));
        }
        for (int i = 0; calls < MOST_CALLS; i++, calls++) {
            C.due("written of " + i, 16 * (i < 20 ? 8 : 2) + 1, x.written(i % 20, i / 20));
        }
        C.due("calls", MOST_CALLS, calls);
    }
}
