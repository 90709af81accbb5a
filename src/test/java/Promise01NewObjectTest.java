public final class Promise01NewObjectTest {
    public static void main(String[] args) {
        Checks c = new Checks();
        DeclareStates x = new DeclareStates();
        for (int what = 0; what <= 4; what++) {
            c.due("count(" + what + ") of a new object", 0, x.count(what));
        }
        for (int what = 10; what <= 17; what++) {
            c.due("count(" + what + ") of a new object", 0, x.count(what));
        }
        c.badIndex("look(0, 0) of a new object", () -> x.look(0, 0));
        c.badIndex("of(0, 0) of a new object", () -> x.of(0, 0));
        c.badArgument("written(0, 0) of a new object", () -> x.written(0, 0));
        c.badArgument("declaration(0, 0) of a new object", () -> x.declaration(0, 0));
        c.due("tick(0) of a new object", 0, x.tick(0));
        c.due("NONE", -1, DeclareStates.NONE);
        objectsDoNotShare(c);
        c.end();
    }

    private static void objectsDoNotShare(Checks c) {
        DeclareStates one = new DeclareStates();
        DeclareStates other = new DeclareStates();
        one.person(0);
        one.declaration(0, 0);
        one.tick(7);
        c.due("people of the other object", 0, other.count(0));
        c.due("declarations of the other object", 0, other.count(1));
        c.due("NOW of the other object", 0, other.count(4));
    }
}
