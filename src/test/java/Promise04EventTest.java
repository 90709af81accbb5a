public final class Promise04EventTest {
    private static final Checks C = new Checks();

    public static void main(String[] args) {
        wrongInputs();
        timesAtTheEdges();
        twentyWait();
        hundredAndTwentyInAll();
        C.end();
    }

    private static void wrongInputs() {
        DeclareStates x = new Desk().x;
        x.declaration(0, 0);
        C.badArgument("declaration -1", () -> x.event(-1, 0, 0, 1));
        C.badArgument("declaration 1", () -> x.event(1, 0, 0, 1));
        C.badArgument("declaration 20", () -> x.event(20, 0, 0, 1));
        C.badArgument("kind -1", () -> x.event(0, -1, 0, 1));
        C.badArgument("kind 10", () -> x.event(0, 10, 0, 1));
        C.badArgument("nobody -1", () -> x.event(0, 0, -1, 1));
        C.badArgument("nobody 5", () -> x.event(0, 0, 5, 1));
        C.due("events behind wrong ones", 0, x.count(2));
        C.due("waiting behind wrong ones", 0, x.count(3));
    }

    private static void timesAtTheEdges() {
        DeclareStates x = new Desk().x;
        x.declaration(0, 0);
        C.badArgument("time -1", () -> x.event(0, 0, 0, -1));
        C.badArgument("time 0 at NOW 0", () -> x.event(0, 0, 0, 0));
        C.due("time 1 at NOW 0", 0, x.event(0, 0, 0, 1));
        C.due("time 100000", 1, x.event(0, 0, 0, 100000));
        C.badArgument("time 100001", () -> x.event(0, 0, 0, 100001));
        x.tick(50);
        C.badArgument("time 50 at NOW 50", () -> x.event(0, 0, 0, 50));
        C.due("time 51 at NOW 50", 2, x.event(0, 0, 0, 51));
        C.due("NOW is not moved by events", 50, x.count(4));
    }

    private static void twentyWait() {
        DeclareStates x = new Desk().x;
        x.declaration(0, 0);
        for (int i = 0; i < 20; i++) {
            C.due("event " + i, i, x.event(0, 0, 0, 1 + i));
        }
        C.badState("the 21st that waits", () -> x.event(0, 0, 0, 5));
        C.badArgument("a wrong kind when 20 wait", () -> x.event(0, 10, 0, 5));
        C.badArgument("a wrong time when 20 wait", () -> x.event(0, 0, 0, 0));
        C.due("events when 20 wait", 20, x.count(2));
        x.tick(1);
        C.due("one more when 19 wait", 20, x.event(0, 0, 0, 5));
        C.badState("20 wait again", () -> x.event(0, 0, 0, 5));
    }

    private static void hundredAndTwentyInAll() {
        DeclareStates x = new Desk().x;
        x.declaration(0, 0);
        for (int i = 0; i < 120; i++) {
            C.due("event " + i, i, x.event(0, 9, 0, i + 1));
            x.tick(i + 1);
        }
        C.due("none waits", 0, x.count(3));
        C.badState("the 121st event", () -> x.event(0, 0, 0, 200));
        C.badArgument("nobody when there are 120", () -> x.event(0, 0, 5, 200));
        C.due("events", 120, x.count(2));
        C.due("the last one's result", -5, x.of(119, 5));
    }
}
