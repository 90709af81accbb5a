/** Promise 9, and of the terms: "INVALIDATED it may be by an officer: from .." */
public final class Edge09InvalidateTest {
    private static final int REFUSED = 0;
    private static final int DONE = 1;
    private static final int WAITS = 2;
    private static final Checks C = new Checks();

    public static void main(String[] args) {
        declarations();
        people();
        reasonsThereAre();
        everyStateAndReason();
        noOfficer();
        theSameAgain();
        secondWithoutReason();
        secondOnesReasonCounts();
        requestEndsWithItsState();
        requestStays();
        C.end();
    }

    // "IllegalArgumentException if there is no such declaration"
    private static void declarations() {
        for (int many : new int[] {0, 1, 3, 20}) {
            Scene scene = Scenes.declarations(C, many);
            for (int d : new int[] {Integer.MIN_VALUE, -1, many, Integer.MAX_VALUE}) {
                scene.badArgument("invalidate(" + d + ", ..)", x -> x.invalidate(d, Desk.OFFICER, 1));
            }
            if (many > 0) {
                DeclareStates x = scene.taken("the last", DONE, y -> y.invalidate(many - 1, Desk.OFFICER, 1));
                C.due("it alone", 1, x.count(10 + Desk.INVALIDATED));
                C.due("its state", Desk.INVALIDATED, x.look(many - 1, 0));
            }
        }
    }

    // "or nobody such"
    private static void people() {
        Scene full = Scenes.people(C, 11).then("an officer, a declaration", x -> {
            x.person(1);
            x.declaration(0, 0);
        });
        full.taken("by the 12th", DONE, x -> x.invalidate(0, 11, 0));
        for (int who : new int[] {Integer.MIN_VALUE, -1, 12, Integer.MAX_VALUE}) {
            full.badArgument("by " + who, x -> x.invalidate(0, who, 0));
        }
        Scene five = Scenes.declarations(C, 1);
        five.keeps("by the last, the port", REFUSED, x -> x.invalidate(0, 4, 1));
        five.badArgument("by one more", x -> x.invalidate(0, 5, 1));
    }

    // "or the reason is not 0 (none) .. 9", whoever tells it and whatever the state
    private static void reasonsThereAre() {
        for (int state = Desk.PREPARED; state <= Desk.CLEARED; state++) {
            Scene scene = Scenes.inState(C, Desk.EXPORT, state);
            for (int reason : new int[] {Integer.MIN_VALUE, -1, 10, Integer.MAX_VALUE}) {
                for (int who = 0; who < 5; who++) {
                    int teller = who;
                    scene.badArgument("by " + who + " for " + reason, x -> x.invalidate(0, teller, reason));
                }
            }
        }
    }

    private static void everyStateAndReason() {
        for (int kind = 0; kind <= 2; kind++) {
            for (int state = Desk.PREPARED; state <= Desk.CLEARED; state++) {
                for (int reason = 0; reason <= 9 && Desk.reaches(kind, state); reason++) {
                    checkAnswer(Scenes.inState(C, kind, state).then("NOW 80", x -> x.tick(80)), state, reason);
                }
            }
        }
    }

    private static void checkAnswer(Scene scene, int state, int reason) {
        boolean free = state == Desk.PREPARED || state == Desk.LODGED;
        boolean reasoned = (state == Desk.ACCEPTED || state == Desk.UNDER_CHECK) && reason != 0;
        String call = "for reason " + reason;
        if (free || reasoned) {
            checkDone(scene, call, reason, scene.taken(call, DONE, x -> x.invalidate(0, Desk.OFFICER, reason)));
        } else if (state == Desk.RELEASED && reason != 0) {
            checkWaits(scene, call, reason);
        } else {
            scene.keeps(call, REFUSED, x -> x.invalidate(0, Desk.OFFICER, reason));
        }
    }

    private static void looks(String call, DeclareStates x, int... due) {
        for (int what = 0; what < due.length; what++) {
            C.due(call + ", look(0, " + what + ")", due[what], x.look(0, what));
        }
    }

    private static void checkDone(Scene scene, String call, int reason, DeclareStates x) {
        DeclareStates was = scene.make();
        looks(call, x, Desk.INVALIDATED, was.look(0, 1), was.look(0, 2), was.look(0, 3), was.look(0, 4), was.look(0, 5),
            80, -1, reason);
    }

    private static void checkWaits(Scene scene, String call, int reason) {
        DeclareStates was = scene.make();
        DeclareStates x = scene.taken(call, WAITS, y -> y.invalidate(0, Desk.OFFICER, reason));
        looks(call, x, Desk.RELEASED, was.look(0, 1), was.look(0, 2), was.look(0, 3), was.look(0, 4), was.look(0, 5),
            was.look(0, 6), Desk.OFFICER, 0);
        Scene asked = scene.then("asked for " + reason, y -> y.invalidate(0, Desk.OFFICER, reason));
        checkDone(scene, "the second", 10 - reason,
            asked.taken("the second", DONE, y -> y.invalidate(0, Desk.OFFICER_TWO, 10 - reason)));
    }

    // "0 it is refused (no officer, .."
    private static void noOfficer() {
        for (int state = Desk.PREPARED; state <= Desk.CLEARED; state++) {
            Scene scene = Scenes.inState(C, Desk.EXPORT, state);
            for (int who : new int[] {Desk.OWNER, Desk.TRADER, Desk.PORT}) {
                for (int reason : new int[] {0, 1, 9}) {
                    scene.keeps("by " + who + " for " + reason, REFUSED, x -> x.invalidate(0, who, reason));
                }
            }
        }
        Scene asked = asked();
        for (int who : new int[] {Desk.OWNER, Desk.TRADER, Desk.PORT}) {
            asked.keeps("second by " + who, REFUSED, x -> x.invalidate(0, who, 3));
        }
    }

    private static Scene asked() {
        return Scenes.inState(C, Desk.EXPORT, Desk.RELEASED)
            .then("an officer asked", x -> x.invalidate(0, Desk.OFFICER, 4));
    }

    // ".. or the same one again)"
    private static void theSameAgain() {
        for (int reason = 0; reason <= 9; reason++) {
            int why = reason;
            asked().keeps("the same again for " + reason, REFUSED, x -> x.invalidate(0, Desk.OFFICER, why));
        }
        Scene other = Scenes.inState(C, Desk.EXPORT, Desk.RELEASED)
            .then("the other officer asked", x -> x.invalidate(0, Desk.OFFICER_TWO, 4));
        other.keeps("the same again", REFUSED, x -> x.invalidate(0, Desk.OFFICER_TWO, 4));
        other.taken("the first officer", DONE, x -> x.invalidate(0, Desk.OFFICER, 4));
        // Person 0 may be an officer too: a request of number 0 is a request.
        Scene zero = new Scene(C, "officer 0 asked", () -> {
            DeclareStates x = new DeclareStates();
            x.person(1);
            x.person(0);
            x.person(1);
            x.declaration(Desk.EXPORT, 1);
            x.event(0, Desk.LODGE, 1, 8);
            x.event(0, Desk.PRESENT, 1, 8);
            x.event(0, Desk.ACCEPT, 0, 8);
            x.tick(8);
            x.invalidate(0, 0, 1);
            return x;
        });
        zero.keeps("who asked", 0, x -> x.look(0, 7));
        zero.keeps("0 again", REFUSED, x -> x.invalidate(0, 0, 1));
        zero.taken("2", DONE, x -> x.invalidate(0, 2, 1));
    }

    // "each with a reason": the first one's request stays
    private static void secondWithoutReason() {
        asked().keeps("the second for 0", REFUSED, x -> x.invalidate(0, Desk.OFFICER_TWO, 0));
        asked().then("the second for 0", x -> x.invalidate(0, Desk.OFFICER_TWO, 0))
            .taken("the second for 1", DONE, x -> x.invalidate(0, Desk.OFFICER_TWO, 1));
    }

    // "(the second one's counts)"
    private static void secondOnesReasonCounts() {
        C.due("no reason yet", 0, asked().make().look(0, 8));
        for (int reason = 1; reason <= 9; reason++) {
            int why = reason;
            DeclareStates x = asked().taken("the second for " + reason, DONE,
                y -> y.invalidate(0, Desk.OFFICER_TWO, why));
            C.due("the reason", reason, x.look(0, 8));
            C.due("nobody waits", -1, x.look(0, 7));
        }
        Scene done = asked().then("done", x -> x.invalidate(0, Desk.OFFICER_TWO, 5));
        done.keeps("the first once more", REFUSED, x -> x.invalidate(0, Desk.OFFICER, 6));
        done.keeps("the second once more", REFUSED, x -> x.invalidate(0, Desk.OFFICER_TWO, 6));
    }

    // "until its state changes"
    private static void requestEndsWithItsState() {
        DeclareStates left = asked().done(0, Desk.LEAVE, Desk.PORT, 50, Desk.LEFT);
        C.due("nobody waits when it LEFT", -1, left.look(0, 7));
        C.due("a LEFT one", REFUSED, left.invalidate(0, Desk.OFFICER_TWO, 4));
        Scene entry = Scenes.inState(C, Desk.IMPORT, Desk.RELEASED)
            .then("an officer asked", x -> x.invalidate(0, Desk.OFFICER, 4));
        DeclareStates cleared = entry.done(0, Desk.REVIEW, Desk.OFFICER, 50, Desk.CLEARED);
        C.due("nobody waits when it is CLEARED", -1, cleared.look(0, 7));
        C.due("a CLEARED one", REFUSED, cleared.invalidate(0, Desk.OFFICER_TWO, 4));
    }

    // "the first one's request stays until the second one's": what changes no state does not end it
    private static void requestStays() {
        asked().refusedEvent(0, Desk.LEAVE, Desk.OWNER, 50, 2);
        asked().refusedEvent(0, Desk.REVIEW, Desk.OFFICER, 50, 4);
        DeclareStates x = asked().taken("a bar", 1, y -> y.bar(0, 3, true));
        C.due("the bar goes", 0, x.bar(0, 3, false));
        C.due("time goes", 0, x.tick(90));
        C.due("who asked", Desk.OFFICER, x.look(0, 7));
        Scene two = new Scene(C, "two RELEASED, one asked for", () -> {
            Desk desk = new Desk();
            desk.inState(Desk.EXPORT, Desk.RELEASED);
            desk.inState(Desk.EXPORT, Desk.RELEASED);
            desk.x.invalidate(0, Desk.OFFICER, 4);
            return desk.x;
        });
        // A request is of one declaration alone.
        DeclareStates other = two.taken("the other by another", WAITS, y -> y.invalidate(1, Desk.OFFICER_TWO, 4));
        C.due("who asked for 0", Desk.OFFICER, other.look(0, 7));
        C.due("who asked for 1", Desk.OFFICER_TWO, other.look(1, 7));
    }
}
