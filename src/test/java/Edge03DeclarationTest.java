/** Promise 3, and of the terms: "DECLARATIONS 0, 1, .. (20 at most) are of a KIND: 0 import, 1 export, 2 transit". */
public final class Edge03DeclarationTest {
    private static final Checks C = new Checks();
    private static final int[] NO_KINDS = {Integer.MIN_VALUE, -1, 3, Integer.MAX_VALUE};

    public static void main(String[] args) {
        kinds();
        nobodySuch();
        noTrader();
        twentyAtMost();
        wrongArgumentIsToldFirst();
        noMarksAtFirst();
        C.end();
    }

    // "IllegalArgumentException if there is no such kind"
    private static void kinds() {
        Scene people = Scenes.people(C, 3);
        for (int kind = 0; kind <= 2; kind++) {
            int good = kind;
            DeclareStates x = people.taken("kind " + kind, 0, y -> y.declaration(good, 0));
            C.due("its kind", kind, x.look(0, 1));
        }
        for (int kind : NO_KINDS) {
            people.badArgument("kind " + kind, x -> x.declaration(kind, 0));
        }
    }

    // "or nobody such"
    private static void nobodySuch() {
        Scene four = Scenes.people(C, 4);
        four.badArgument("of -1", x -> x.declaration(0, -1));
        four.taken("of the first", 0, x -> x.declaration(0, 0));
        DeclareStates x = four.taken("of the last", 0, y -> y.declaration(0, 3));
        C.due("its trader", 3, x.look(0, 2));
        four.badArgument("of one more", y -> y.declaration(0, 4));
        four.badArgument("of MIN", y -> y.declaration(0, Integer.MIN_VALUE));
        four.badArgument("of MAX", y -> y.declaration(0, Integer.MAX_VALUE));
        Scene full = Scenes.people(C, 11).then("a trader", y -> y.person(0));
        full.taken("of the 12th", 0, y -> y.declaration(0, 11));
        full.badArgument("of a 13th", y -> y.declaration(0, 12));
    }

    // "or it is no trader"
    private static void noTrader() {
        Scene people = Scenes.people(C, 12);
        for (int who = 0; who < 12; who++) {
            int trader = who;
            if (who % 3 == 0) {
                people.taken("of trader " + who, 0, x -> x.declaration(0, trader));
            } else {
                people.badArgument("of " + who, x -> x.declaration(0, trader));
            }
        }
    }

    // "IllegalStateException if there are 20."
    private static void twentyAtMost() {
        for (int many = 0; many < 20; many++) {
            DeclareStates x = Scenes.declarations(C, many).taken("one more", many, y -> y.declaration(2, Desk.TRADER));
            C.due("declarations behind " + many, many + 1, x.count(1));
        }
        for (int kind = 0; kind <= 2; kind++) {
            int good = kind;
            Scenes.declarations(C, 20).badState("a 21st", x -> x.declaration(good, Desk.OWNER));
        }
        // Those that are over keep their room.
        Scenes.declarations(C, 20).then("one invalidated", x -> x.invalidate(0, Desk.OFFICER, 1))
            .badState("a 21st", x -> x.declaration(0, Desk.OWNER));
    }

    // "Of several exceptions the one told first is thrown."
    private static void wrongArgumentIsToldFirst() {
        Scene full = Scenes.declarations(C, 20);
        full.badArgument("a 21st of kind -1", x -> x.declaration(-1, Desk.OWNER));
        full.badArgument("a 21st of kind 3", x -> x.declaration(3, Desk.OWNER));
        full.badArgument("a 21st of -1", x -> x.declaration(0, -1));
        full.badArgument("a 21st of nobody", x -> x.declaration(0, 5));
        full.badArgument("a 21st of an officer", x -> x.declaration(0, Desk.OFFICER));
        full.badArgument("a 21st of the port", x -> x.declaration(0, Desk.PORT));
    }

    // "Marks: PRESENTED, PAID, FAULTY (none at first)."
    private static void noMarksAtFirst() {
        DeclareStates x = Scenes.inState(C, Desk.IMPORT, Desk.CLEARED)
            .taken("one behind another", 1, y -> y.declaration(1, Desk.OWNER));
        int[] due = {Desk.PREPARED, Desk.EXPORT, Desk.OWNER, 0, 0, 0, 0, -1, 0};
        for (int what = 0; what < due.length; what++) {
            C.due("look(1, " + what + ")", due[what], x.look(1, what));
        }
    }
}
