public final class Promise03DeclarationTest {
    public static void main(String[] args) {
        Checks c = new Checks();
        DeclareStates x = new DeclareStates();
        x.person(1);
        x.person(0);
        x.person(2);
        c.badArgument("kind -1", () -> x.declaration(-1, 1));
        c.badArgument("kind 3", () -> x.declaration(3, 1));
        c.badArgument("nobody -1", () -> x.declaration(0, -1));
        c.badArgument("nobody 3", () -> x.declaration(0, 3));
        c.badArgument("nobody 12", () -> x.declaration(0, 12));
        c.badArgument("an officer", () -> x.declaration(0, 0));
        c.badArgument("the port", () -> x.declaration(0, 2));
        c.due("declarations behind wrong ones", 0, x.count(1));
        for (int i = 0; i < 20; i++) {
            c.due("declaration " + i, i, x.declaration(i % 3, 1));
            c.due("kind of " + i, i % 3, x.look(i, 1));
            c.due("trader of " + i, 1, x.look(i, 2));
            c.due("state of " + i, 0, x.look(i, 0));
        }
        c.badState("the 21st declaration", () -> x.declaration(0, 1));
        c.badArgument("a wrong kind when there are 20", () -> x.declaration(3, 1));
        c.badArgument("nobody when there are 20", () -> x.declaration(0, 9));
        c.due("declarations", 20, x.count(1));
        c.end();
    }
}
