/** Promise 11: "The i-th WRITTEN of a declaration, the first at 0 ..; NONE without." */
public final class Edge11WrittenTest {
    private static final Checks C = new Checks();

    public static void main(String[] args) {
        declarations();
        places();
        whatWaitsIsNotWritten();
        lowestAndHighest();
        C.end();
    }

    // "IllegalArgumentException if there is no such declaration.", whatever the place
    private static void declarations() {
        for (int many : new int[] {0, 1, 2, 19, 20}) {
            Scene scene = Scenes.declarations(C, many);
            for (int d : new int[] {Integer.MIN_VALUE, -1, many, 20, Integer.MAX_VALUE}) {
                for (int i : new int[] {-1, 0, 1}) {
                    scene.badArgument("written(" + d + ", " + i + ")", x -> x.written(d, i));
                }
            }
            if (many > 0) {
                scene.keeps("written of the last", -1, x -> x.written(many - 1, 0));
            }
        }
    }

    private static void places() {
        for (int many : new int[] {0, 1, 2, 20, 119, 120}) {
            Scene scene = Scenes.events(C, many, 0);
            for (int i : new int[] {Integer.MIN_VALUE, -1, many, many + 1, Integer.MAX_VALUE}) {
                scene.keeps("written(0, " + i + ")", -1, x -> x.written(0, i));
            }
            for (int i = 0; i < many; i++) {
                int place = i;
                scene.taken("written(0, " + i + ")", 16 * (-5 + 8) + Desk.MEND, x -> x.written(0, place));
            }
        }
    }

    private static void whatWaitsIsNotWritten() {
        Scene waits = Scenes.events(C, 3, 1);
        waits.taken("the second", 57, x -> x.written(0, 1));
        waits.keeps("the third, which waits", -1, x -> x.written(0, 2));
        waits.then("it is settled", x -> x.tick(3)).taken("the third", 57, x -> x.written(0, 2));
        // A bar, an invalidation and what is not carried out by an event are not written.
        DeclareStates x = Scenes.held(C, Desk.EXPORT, Desk.ACCEPTED, 1).make();
        int writings = x.look(0, 5);
        x.bar(0, 0, false);
        C.due("released", Desk.RELEASED, x.look(0, 0));
        x.invalidate(0, Desk.OFFICER, 1);
        x.invalidate(0, Desk.OFFICER_TWO, 1);
        C.due("invalidated", Desk.INVALIDATED, x.look(0, 0));
        C.due("how many are written", writings, x.look(0, 5));
        C.due("behind the last", -1, x.written(0, writings));
    }

    // "16 * (RESULT + 8) and the kind of event": from refused by a mark to CLEARED
    private static void lowestAndHighest() {
        Scene presented = Scenes.held(C, Desk.EXPORT, Desk.ACCEPTED, 1);
        DeclareStates low = presented.done(0, Desk.PRESENT, Desk.PORT, 50, -6);
        C.due("the lowest", 16 * 2 + Desk.PRESENT, low.written(0, low.look(0, 5) - 1));
        DeclareStates high = Scenes.inState(C, Desk.EXPORT, Desk.LEFT).done(0, Desk.REVIEW, Desk.OFFICER, 50, 7);
        C.due("the highest", 16 * 15 + Desk.REVIEW, high.written(0, high.look(0, 5) - 1));
        DeclareStates zero = Scenes.declarations(C, 1).done(0, Desk.PRESENT, Desk.PORT, 50, 0);
        C.due("of state 0", 16 * 8 + Desk.PRESENT, zero.written(0, 0));
    }
}
