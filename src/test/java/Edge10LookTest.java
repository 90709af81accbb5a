/** Promise 10: "IndexOutOfBoundsException if there is no such declaration or what." */
public final class Edge10LookTest {
    private static final int[] NO_WHATS = {Integer.MIN_VALUE, -1, 9, Integer.MAX_VALUE};
    private static final Checks C = new Checks();

    public static void main(String[] args) {
        declarations();
        whats();
        marksTogether();
        changedAtFirst();
        C.end();
    }

    private static void declarations() {
        for (int many : new int[] {0, 1, 2, 19, 20}) {
            Scene scene = Scenes.declarations(C, many);
            for (int d : new int[] {Integer.MIN_VALUE, -1, many, 20, Integer.MAX_VALUE}) {
                for (int what : new int[] {-1, 0, 8, 9}) {
                    scene.badIndex("look(" + d + ", " + what + ")", x -> x.look(d, what));
                }
            }
            for (int d = 0; d < many; d++) {
                int number = d;
                scene.keeps("look(" + d + ", 1)", d % 3, x -> x.look(number, 1));
            }
        }
    }

    private static void whats() {
        int[] due = {Desk.RELEASED, Desk.EXPORT, Desk.OWNER, 3, 128, 4, 4, Desk.OFFICER, 0};
        Scene asked = Scenes.inState(C, Desk.EXPORT, Desk.RELEASED).then("asked for, barred", x -> {
            x.tick(60);
            x.bar(0, 7, true);
            x.invalidate(0, Desk.OFFICER, 9);
        });
        for (int what = 0; what <= 8; what++) {
            int good = what;
            asked.keeps("look(0, " + what + ")", due[what], x -> x.look(0, good));
        }
        for (int what : NO_WHATS) {
            asked.badIndex("look(0, " + what + ")", x -> x.look(0, what));
        }
    }

    // "marks (1 PRESENTED, 2 PAID, 4 FAULTY together)"
    private static void marksTogether() {
        for (int marks = 0; marks <= 7; marks++) {
            int all = marks;
            C.due("marks", all, Scenes.held(C, Desk.EXPORT, Desk.ACCEPTED, all).make().look(0, 3));
            C.due("marks", all, Scenes.held(C, Desk.EXPORT, Desk.UNDER_CHECK, all).make().look(0, 3));
        }
    }

    // "when its STATE changed last (0 at first)", "NONE without", "0 ahead of that": whenever it is made
    private static void changedAtFirst() {
        Scene late = Scenes.declarations(C, 0).then("one made at 100000", x -> {
            x.tick(100000);
            x.declaration(0, Desk.OWNER);
        });
        late.keeps("look(0, 6)", 0, x -> x.look(0, 6));
        late.keeps("look(0, 7)", -1, x -> x.look(0, 7));
        late.keeps("look(0, 8)", 0, x -> x.look(0, 8));
        DeclareStates x = late.taken("invalidate", 1, y -> y.invalidate(0, Desk.OFFICER, 0));
        C.due("it changed", 100000, x.look(0, 6));
    }
}
