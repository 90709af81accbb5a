/** Promise 4, and of the terms: "EVENTS 0, 1, .. (120 at most) .. WAIT (20 at most)". */
public final class Edge04EventTest {
    private static final Checks C = new Checks();
    private static final int LAST_TIME = 100000;

    public static void main(String[] args) {
        declarations();
        kinds();
        tellers();
        timeBehindNow();
        lastTime();
        hundredAndTwentyAtMost();
        twentyWaitAtMost();
        wrongArgumentIsToldFirst();
        toldWhateverItWillDo();
        C.end();
    }

    // "IllegalArgumentException if there is no such declaration"
    private static void declarations() {
        Scene three = Scenes.declarations(C, 3);
        three.badArgument("of -1", x -> x.event(-1, 0, 0, 1));
        three.taken("of the first", 0, x -> x.event(0, 0, 0, 1));
        DeclareStates x = three.taken("of the last", 0, y -> y.event(2, 0, 0, 1));
        C.due("its declaration", 2, x.of(0, 0));
        three.badArgument("of one more", y -> y.event(3, 0, 0, 1));
        three.badArgument("of MIN", y -> y.event(Integer.MIN_VALUE, 0, 0, 1));
        three.badArgument("of MAX", y -> y.event(Integer.MAX_VALUE, 0, 0, 1));
        Scene full = Scenes.declarations(C, 20);
        full.taken("of the 20th", 0, y -> y.event(19, 0, 0, 1));
        full.badArgument("of a 21st", y -> y.event(20, 0, 0, 1));
    }

    // "kind (0 .. 9)"
    private static void kinds() {
        Scene one = Scenes.declarations(C, 1);
        for (int kind = 0; kind <= 9; kind++) {
            int good = kind;
            DeclareStates x = one.taken("kind " + kind, 0, y -> y.event(0, good, 0, 1));
            C.due("its kind", kind, x.of(0, 1));
        }
        for (int kind : new int[] {Integer.MIN_VALUE, -1, 10, 32, Integer.MAX_VALUE}) {
            one.badArgument("kind " + kind, x -> x.event(0, kind, 0, 1));
        }
    }

    // "or nobody such"
    private static void tellers() {
        Scene five = Scenes.declarations(C, 1);
        five.badArgument("by -1", x -> x.event(0, 0, -1, 1));
        five.taken("by the first", 0, x -> x.event(0, 0, 0, 1));
        DeclareStates x = five.taken("by the last", 0, y -> y.event(0, 0, 4, 1));
        C.due("who told it", 4, x.of(0, 2));
        five.badArgument("by one more", y -> y.event(0, 0, 5, 1));
        five.badArgument("by MIN", y -> y.event(0, 0, Integer.MIN_VALUE, 1));
        five.badArgument("by MAX", y -> y.event(0, 0, Integer.MAX_VALUE, 1));
        Scene full = Scenes.people(C, 12).then("a declaration", y -> y.declaration(0, 0));
        full.taken("by the 12th", 0, y -> y.event(0, 0, 11, 1));
        full.badArgument("by a 13th", y -> y.event(0, 0, 12, 1));
    }

    // "or the time is not behind NOW"
    private static void timeBehindNow() {
        for (int now : new int[] {0, 1, 500, LAST_TIME - 1}) {
            Scene at = Scenes.declarations(C, 1).then("NOW " + now, x -> x.tick(now));
            at.badArgument("for NOW - 1", x -> x.event(0, 0, 0, now - 1));
            at.badArgument("for NOW", x -> x.event(0, 0, 0, now));
            DeclareStates x = at.taken("for NOW + 1", 0, y -> y.event(0, 0, 0, now + 1));
            C.due("its time", now + 1, x.of(0, 3));
            C.due("NOW is as it was", now, x.count(4));
            at.badArgument("for MIN", y -> y.event(0, 0, 0, Integer.MIN_VALUE));
        }
    }

    // "or above 100000"
    private static void lastTime() {
        Scene one = Scenes.declarations(C, 1);
        DeclareStates x = one.taken("for 100000", 0, y -> y.event(0, 0, 0, LAST_TIME));
        C.due("its time", LAST_TIME, x.of(0, 3));
        one.badArgument("for 100001", y -> y.event(0, 0, 0, LAST_TIME + 1));
        one.badArgument("for MAX", y -> y.event(0, 0, 0, Integer.MAX_VALUE));
        Scene end = one.then("NOW 100000", y -> y.tick(LAST_TIME));
        end.badArgument("for 100000", y -> y.event(0, 0, 0, LAST_TIME));
        end.badArgument("for 100001", y -> y.event(0, 0, 0, LAST_TIME + 1));
    }

    // "IllegalStateException if there are 120"
    private static void hundredAndTwentyAtMost() {
        for (int waiting : new int[] {0, 1, 19}) {
            DeclareStates x = Scenes.events(C, 119, waiting).taken("the 120th", 119, y -> y.event(0, 0, 0, 200));
            C.due("events", 120, x.count(2));
            C.due("those that wait", waiting + 1, x.count(3));
            Scenes.events(C, 120, waiting).badState("a 121st", y -> y.event(0, 0, 0, 200));
        }
        Scenes.events(C, 119, 20).badState("the 120th when 20 wait", x -> x.event(0, 0, 0, 200));
        Scenes.events(C, 120, 20).badState("a 121st when 20 wait", x -> x.event(0, 0, 0, 200));
        Scenes.events(C, 120, 20).then("none waits any more", x -> x.tick(120))
            .badState("a 121st", x -> x.event(0, 0, 0, 200));
    }

    // "or 20 wait."
    private static void twentyWaitAtMost() {
        for (int settled : new int[] {0, 1, 57}) {
            DeclareStates x = Scenes.events(C, settled + 19, 19)
                .taken("a 20th that waits", settled + 19, y -> y.event(0, 0, 0, 200));
            C.due("those that wait", 20, x.count(3));
            Scene full = Scenes.events(C, settled + 20, 20);
            full.badState("a 21st that waits", y -> y.event(0, 0, 0, 200));
            // Told ahead of all that wait, it would be the first of them.
            full.badState("a 21st for the next hour", y -> y.event(0, 0, 0, settled + 1));
            full.then("nothing is due", y -> y.tick(settled)).badState("a 21st", y -> y.event(0, 0, 0, 200));
            full.then("one is settled", y -> y.tick(settled + 1))
                .taken("a 20th that waits", settled + 20, y -> y.event(0, 0, 0, 200));
        }
    }

    // "Of several exceptions the one told first is thrown."
    private static void wrongArgumentIsToldFirst() {
        for (Scene full : new Scene[] {Scenes.events(C, 20, 20), Scenes.events(C, 120, 0), Scenes.events(C, 120, 20)}) {
            full.badArgument("of -1", x -> x.event(-1, 0, 0, 200));
            full.badArgument("of one more", x -> x.event(1, 0, 0, 200));
            full.badArgument("kind -1", x -> x.event(0, -1, 0, 200));
            full.badArgument("kind 10", x -> x.event(0, 10, 0, 200));
            full.badArgument("by -1", x -> x.event(0, 0, -1, 200));
            full.badArgument("by nobody", x -> x.event(0, 0, 5, 200));
            full.badArgument("for NOW", x -> x.event(0, 0, 0, x.count(4)));
            full.badArgument("for 100001", x -> x.event(0, 0, 0, LAST_TIME + 1));
        }
    }

    // What an event may do is asked when it is carried out, not when it is told.
    private static void toldWhateverItWillDo() {
        for (int state = 0; state < 8; state++) {
            for (int who = 0; who < 5; who++) {
                int teller = who;
                DeclareStates x = Scenes.inState(C, Desk.EXPORT, state).taken("LODGE by " + who, 0,
                    y -> y.event(0, Desk.LODGE, teller, 200) - (y.count(2) - 1));
                C.due("the state stays", state, x.look(0, 0));
                C.due("it waits", 1, x.count(3));
            }
        }
    }
}
