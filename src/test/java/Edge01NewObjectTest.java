/** Promise 1: "No people, declarations; NOW 0." */
public final class Edge01NewObjectTest {
    private static final Checks C = new Checks();
    private static final Scene NEW = Scenes.newObject(C);

    public static void main(String[] args) {
        nobody();
        noDeclaration();
        noEvent();
        nowIsZero();
        officeAsAtFirst();
        C.end();
    }

    private static void nobody() {
        NEW.keeps("count(0)", 0, x -> x.count(0));
        NEW.badArgument("declaration(0, 0)", x -> x.declaration(0, 0));
        NEW.taken("person(0)", 0, x -> x.person(0));
        NEW.then("somebody", x -> x.person(0)).taken("declaration(0, 0)", 0, x -> x.declaration(0, 0));
    }

    private static void noDeclaration() {
        NEW.keeps("count(1)", 0, x -> x.count(1));
        for (int state = 0; state < 8; state++) {
            int what = 10 + state;
            NEW.keeps("count(" + what + ")", 0, x -> x.count(what));
        }
        Scene somebody = Scenes.people(C, 3);
        somebody.badArgument("event(0, 0, 0, 1)", x -> x.event(0, 0, 0, 1));
        somebody.badArgument("bar(0, 0, true)", x -> x.bar(0, 0, true));
        somebody.badArgument("invalidate(0, 1, 1)", x -> x.invalidate(0, 1, 1));
        somebody.badIndex("look(0, 0)", x -> x.look(0, 0));
        somebody.badArgument("written(0, 0)", x -> x.written(0, 0));
    }

    private static void noEvent() {
        NEW.keeps("count(2)", 0, x -> x.count(2));
        NEW.keeps("count(3)", 0, x -> x.count(3));
        NEW.badIndex("of(0, 0)", x -> x.of(0, 0));
    }

    private static void nowIsZero() {
        NEW.keeps("count(4)", 0, x -> x.count(4));
        NEW.badArgument("tick(-1)", x -> x.tick(-1));
        NEW.keeps("tick(0)", 0, x -> x.tick(0));
        Scene one = Scenes.declarations(C, 1);
        one.badArgument("event at 0", x -> x.event(0, 0, 0, 0));
        one.taken("event at 1", 0, x -> x.event(0, 0, 0, 1));
    }

    // Terms: HOURS are "8 and 16 at first"; no kind of act was told to fail.
    private static void officeAsAtFirst() {
        Scene one = Scenes.people(C, 3).then("a declaration", x -> x.declaration(0, 0));
        one.refusedEvent(0, Desk.ACCEPT, 1, 7, 3);
        one.refusedEvent(0, Desk.ACCEPT, 1, 8, 4);
        one.refusedEvent(0, Desk.ACCEPT, 1, 15, 4);
        one.refusedEvent(0, Desk.ACCEPT, 1, 16, 3);
        for (int kind = 0; kind <= 9; kind++) {
            int act = kind;
            NEW.keeps("fails(" + kind + ", false)", 0, x -> x.fails(act, false) ? 1 : 0);
            NEW.taken("fails(" + kind + ", true)", 1, x -> x.fails(act, true) ? 1 : 0);
        }
    }
}
