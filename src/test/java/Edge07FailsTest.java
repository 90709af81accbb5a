/** Promise 7, and of the terms: "the kind of act was told to FAIL (then it fails no more)". */
public final class Edge07FailsTest {
    private static final Checks C = new Checks();
    // 32 and more would be kinds 0 and more again if bits were shifted by them.
    private static final int[] NO_KINDS = {Integer.MIN_VALUE, -32, -1, 10, 31, 32, 41, Integer.MAX_VALUE};

    public static void main(String[] args) {
        kinds();
        itIsSo();
        failsNoMore();
        failsEvenWhatWouldBeRefused();
        staysTillItsKindComes();
        C.end();
    }

    private static Scene one() {
        return Scenes.declarations(C, 1);
    }

    // "A kind of act (0 .. 9) .. false if there is none such"
    private static void kinds() {
        for (int kind = 0; kind <= 9; kind++) {
            int act = kind;
            one().taken("fails(" + kind + ", true)", 1, x -> x.fails(act, true) ? 1 : 0);
        }
        Scene all = one().then("all fail", x -> {
            for (int kind = 0; kind <= 9; kind++) {
                x.fails(kind, true);
            }
        });
        for (int kind : NO_KINDS) {
            for (Scene scene : new Scene[] {one(), all}) {
                scene.keeps("fails(" + kind + ", true)", 0, x -> x.fails(kind, true) ? 1 : 0);
                scene.keeps("fails(" + kind + ", false)", 0, x -> x.fails(kind, false) ? 1 : 0);
            }
        }
    }

    // "or it is so"
    private static void itIsSo() {
        for (int kind = 0; kind <= 9; kind++) {
            int act = kind;
            one().keeps("fails(" + kind + ", false)", 0, x -> x.fails(act, false) ? 1 : 0);
            Scene failing = one().then("act " + kind + " fails", x -> x.fails(act, true));
            failing.keeps("fails(" + kind + ", true)", 0, x -> x.fails(act, true) ? 1 : 0);
            failing.taken("fails(" + kind + ", false)", 1, x -> x.fails(act, false) ? 1 : 0);
            failing.then("told not to", x -> x.fails(act, false))
                .keeps("fails(" + kind + ", false)", 0, x -> x.fails(act, false) ? 1 : 0);
        }
    }

    private static void failsNoMore() {
        for (int kind = 0; kind <= 9; kind++) {
            int act = kind;
            Scene failing = one().then("act " + kind + " fails", x -> x.fails(act, true));
            failing.refusedEvent(0, kind, Desk.OWNER, 5, 1);
            int due = ActTable.due(one().make(), 0, kind, Desk.OWNER);
            Scene once = failing.then("it failed", x -> {
                x.event(0, act, Desk.OWNER, 5);
                x.tick(5);
            });
            once.done(0, kind, Desk.OWNER, 6, due);
            once.keeps("fails(" + kind + ", false)", 0, x -> x.fails(act, false) ? 1 : 0);
            once.taken("fails(" + kind + ", true)", 1, x -> x.fails(act, true) ? 1 : 0);
            once.then("told to fail again", x -> x.fails(act, true)).refusedEvent(0, kind, Desk.OWNER, 6, 1);
        }
    }

    private static void failsEvenWhatWouldBeRefused() {
        Scene failing = one().then("LODGE fails", x -> x.fails(Desk.LODGE, true));
        failing.refusedEvent(0, Desk.LODGE, Desk.TRADER, 5, 1);
        Scene used = failing.then("another trader's failed", x -> {
            x.event(0, Desk.LODGE, Desk.TRADER, 5);
            x.tick(5);
        });
        used.done(0, Desk.LODGE, Desk.OWNER, 6, Desk.LODGED);
    }

    private static void staysTillItsKindComes() {
        Scene failing = one().then("LODGE fails, time and another act come", x -> {
            x.fails(Desk.LODGE, true);
            x.tick(99);
            x.event(0, Desk.PRESENT, Desk.PORT, 100);
            x.tick(101);
        });
        failing.refusedEvent(0, Desk.LODGE, Desk.OWNER, 102, 1);
        // Of two at one time the first fails, the second goes.
        DeclareStates two = failing.then("two", x -> {
            x.event(0, Desk.LODGE, Desk.OWNER, 102);
            x.event(0, Desk.LODGE, Desk.OWNER, 102);
        }).taken("tick(102)", 2, x -> x.tick(102));
        C.due("the first", -2, two.of(1, 5));
        C.due("the second", Desk.LODGED, two.of(2, 5));
    }
}
