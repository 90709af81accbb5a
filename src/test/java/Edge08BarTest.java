/** Promise 8, and of the terms: "BARS of a declaration: kinds 0 .. 7, on or off, from any state but ..". */
public final class Edge08BarTest {
    private static final Checks C = new Checks();
    // 32 and more would be bars 0 and more again if bits were shifted by them.
    private static final int[] NO_KINDS = {Integer.MIN_VALUE, -32, -1, 8, 31, 32, 39, Integer.MAX_VALUE};

    public static void main(String[] args) {
        declarations();
        kinds();
        itIsSo();
        noneToAllAndBack();
        statesThatBarIt();
        releasedAndLeftStaySo();
        C.end();
    }

    // "IllegalArgumentException if there is no such declaration"
    private static void declarations() {
        for (int many : new int[] {0, 1, 3, 20}) {
            Scene scene = Scenes.declarations(C, many);
            for (int d : new int[] {Integer.MIN_VALUE, -1, many, Integer.MAX_VALUE}) {
                scene.badArgument("bar(" + d + ", 0, true)", x -> x.bar(d, 0, true));
                scene.badArgument("bar(" + d + ", 0, false)", x -> x.bar(d, 0, false));
            }
            if (many > 0) {
                DeclareStates x = scene.taken("a bar of the last", 1, y -> y.bar(many - 1, 0, true));
                C.due("its bars", 1, x.look(many - 1, 4));
                C.due("bars of the first", many == 1 ? 1 : 0, x.look(0, 4));
            }
        }
    }

    // "or kind."
    private static void kinds() {
        Scene one = Scenes.declarations(C, 1);
        for (int kind = 0; kind <= 7; kind++) {
            int bar = kind;
            DeclareStates x = one.taken("bar(0, " + kind + ", true)", 1, y -> y.bar(0, bar, true));
            C.due("its bit", 1 << kind, x.look(0, 4));
        }
        Scene all = one.then("all bars", Edge08BarTest::allBars);
        Scene over = one.then("invalidated", x -> x.invalidate(0, Desk.OFFICER, 0));
        for (int kind : NO_KINDS) {
            for (Scene scene : new Scene[] {one, all, over}) {
                scene.badArgument("bar(0, " + kind + ", true)", x -> x.bar(0, kind, true));
                scene.badArgument("bar(0, " + kind + ", false)", x -> x.bar(0, kind, false));
            }
        }
    }

    private static void allBars(DeclareStates x) {
        for (int kind = 0; kind <= 7; kind++) {
            x.bar(0, kind, true);
        }
    }

    // "NONE if it is so"
    private static void itIsSo() {
        for (int state = Desk.PREPARED; state <= Desk.LEFT; state++) {
            Scene scene = Scenes.inState(C, Desk.EXPORT, state);
            for (int kind = 1; kind <= 7; kind++) {
                int bar = kind;
                scene.keeps("bar(0, " + kind + ", false)", -1, x -> x.bar(0, bar, false));
                Scene barred = scene.then("bar " + kind, x -> x.bar(0, bar, true));
                barred.keeps("bar(0, " + kind + ", true)", -1, x -> x.bar(0, bar, true));
            }
        }
    }

    // "how many bars it has then"
    private static void noneToAllAndBack() {
        DeclareStates x = Scenes.declarations(C, 2).make();
        for (int kind = 0; kind <= 7; kind++) {
            C.due("bars with " + kind, kind + 1, x.bar(0, kind, true));
        }
        C.due("all bits", 255, x.look(0, 4));
        for (int kind = 0; kind <= 7; kind++) {
            C.due("bars without " + kind, 7 - kind, x.bar(0, kind, false));
        }
        C.due("no bits", 0, x.look(0, 4));
        C.due("none to take off", -1, x.bar(0, 0, false));
    }

    // "from any state but INVALIDATED and CLEARED", with bars and without
    private static void statesThatBarIt() {
        for (int kind = 0; kind <= 2; kind++) {
            for (int state = Desk.PREPARED; state <= Desk.CLEARED; state++) {
                if (Desk.reaches(kind, state)) {
                    checkState(Scenes.inState(C, kind, state), state);
                }
            }
            Scene invalidated = Scenes.inState(C, kind, Desk.LODGED).then("bar 2, invalidated", x -> {
                x.bar(0, 2, true);
                x.invalidate(0, Desk.OFFICER, 1);
            });
            C.due("its bar stays", 4, invalidated.make().look(0, 4));
            barsNothing(invalidated);
            int before = kind == Desk.IMPORT ? Desk.RELEASED : Desk.LEFT;
            Scene cleared = Scenes.inState(C, kind, before).then("bar 2, cleared", x -> {
                x.bar(0, 2, true);
                x.event(0, Desk.REVIEW, Desk.OFFICER, 50);
                x.tick(50);
            });
            C.due("cleared", Desk.CLEARED, cleared.make().look(0, 0));
            C.due("its bar stays", 4, cleared.make().look(0, 4));
            barsNothing(cleared);
        }
    }

    private static void checkState(Scene scene, int state) {
        if (state == Desk.INVALIDATED || state == Desk.CLEARED) {
            barsNothing(scene);
            return;
        }
        int had = Integer.bitCount(scene.make().look(0, 4));
        DeclareStates x = scene.taken("bar(0, 7, true)", had + 1, y -> y.bar(0, 7, true));
        C.due("the state stays " + state, state, x.look(0, 0));
        C.due("and off", had, x.bar(0, 7, false));
        C.due("the state stays so " + state, state, x.look(0, 0));
    }

    private static void barsNothing(Scene over) {
        for (int kind = 0; kind <= 7; kind++) {
            int bar = kind;
            over.keeps("bar(0, " + kind + ", true)", -1, x -> x.bar(0, bar, true));
            over.keeps("bar(0, " + kind + ", false)", -1, x -> x.bar(0, bar, false));
        }
    }

    // "A RELEASED or LEFT one stays so with bars."
    private static void releasedAndLeftStaySo() {
        for (int state : new int[] {Desk.RELEASED, Desk.LEFT}) {
            DeclareStates x = Scenes.inState(C, Desk.EXPORT, state).make();
            int changed = x.look(0, 6);
            x.tick(70);
            allBars(x);
            C.due("with all bars", state, x.look(0, 0));
            for (int kind = 0; kind <= 7; kind++) {
                x.bar(0, kind, false);
            }
            C.due("without bars again", state, x.look(0, 0));
            C.due("it has not changed", changed, x.look(0, 6));
        }
    }
}
