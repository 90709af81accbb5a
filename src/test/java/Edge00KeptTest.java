/**
 * "What throws or is refused changes nothing but what it says": on objects where all there is to change is set, some
 * acts failing, other hours than at first, bars, marks, a request and events that wait.
 */
public final class Edge00KeptTest {
    private static final int LAST_TIME = 100000;
    private static final int NO_ACT = -1;
    // Hours of a day behind all that the busy object has seen, by its own office's hours.
    private static final int CLOSED = 10 * 24 + 4;
    private static final int OPEN = 10 * 24 + 5;
    private static final Checks C = new Checks();

    public static void main(String[] args) {
        for (Scene scene : new Scene[] {busy(), full(), allTold()}) {
            wrongArguments(scene);
            refusals(scene);
            reads(scene);
        }
        noRoom(full());
        noRoom(allTold());
        refusedEvents();
        C.end();
    }

    // Export i is in state i; those that are held have a bar, 4 is asked for, and 8 is faulty.
    private static Scene busy() {
        return new Scene(C, "a busy object", () -> {
            Desk desk = new Desk();
            for (int state = Desk.PREPARED; state <= Desk.CLEARED; state++) {
                desk.inState(Desk.EXPORT, state);
            }
            desk.held(Desk.IMPORT, Desk.UNDER_CHECK, 5);
            DeclareStates x = desk.x;
            x.bar(0, 3, true);
            x.bar(4, 6, true);
            x.bar(5, 7, true);
            x.invalidate(4, Desk.OFFICER, 2);
            x.hours(5, 20);
            for (int kind : new int[] {Desk.LODGE, Desk.SELECT, Desk.MEND}) {
                x.fails(kind, true);
            }
            int now = x.count(4);
            x.event(0, Desk.LODGE, Desk.OWNER, now + 5);
            x.event(2, Desk.PRESENT, Desk.PORT, now + 2);
            x.event(2, Desk.SELECT, Desk.OFFICER, now + 2);
            return x;
        });
    }

    private static Scene full() {
        return busy().then("full", x -> {
            while (x.count(0) < 12) {
                x.person(x.count(0) % 3);
            }
            while (x.count(1) < 20) {
                x.declaration(x.count(1) % 3, Desk.TRADER);
            }
            while (x.count(3) < 20) {
                x.event(x.count(3), x.count(3) % 10, Desk.OWNER, x.count(4) + 9);
            }
        });
    }

    private static Scene allTold() {
        return busy().then("all events told", x -> {
            while (x.count(0) < 12) {
                x.person(1);
            }
            while (x.count(1) < 20) {
                x.declaration(2, Desk.OWNER);
            }
            int time = x.count(4) + 9;
            for (int left = 120 - x.count(2); left > 0; left--) {
                x.event(9, Desk.LEAVE, Desk.OWNER, time);
                // Some wait in the end.
                if (left % 10 == 2) {
                    x.tick(time);
                    time++;
                }
            }
            x.fails(Desk.LODGE, true);
            x.fails(Desk.SELECT, true);
        });
    }

    private static void wrongArguments(Scene scene) {
        for (int wrong : new int[] {-1, LAST_TIME + 1}) {
            scene.badArgument("person(" + wrong + ")", x -> x.person(wrong));
            scene.badArgument("declaration(" + wrong + ", 0)", x -> x.declaration(wrong, 0));
            scene.badArgument("declaration(0, " + wrong + ")", x -> x.declaration(0, wrong));
            scene.badArgument("event of " + wrong, x -> x.event(wrong, 0, 0, LAST_TIME));
            scene.badArgument("event of kind " + wrong, x -> x.event(0, wrong, 0, LAST_TIME));
            scene.badArgument("event by " + wrong, x -> x.event(0, 0, wrong, LAST_TIME));
            scene.badArgument("event for " + wrong, x -> x.event(0, 0, 0, wrong));
            scene.badArgument("tick(" + wrong + ")", x -> x.tick(wrong));
            scene.badArgument("bar of " + wrong, x -> x.bar(wrong, 0, true));
            scene.badArgument("bar " + wrong, x -> x.bar(0, wrong, true));
            scene.badArgument("invalidate " + wrong, x -> x.invalidate(wrong, Desk.OFFICER, 1));
            scene.badArgument("invalidate by " + wrong, x -> x.invalidate(4, wrong, 1));
            scene.badArgument("invalidate for " + wrong, x -> x.invalidate(4, Desk.OFFICER_TWO, wrong));
            scene.badArgument("written of " + wrong, x -> x.written(wrong, 0));
            scene.badIndex("look of " + wrong, x -> x.look(wrong, 0));
            scene.badIndex("look for " + wrong, x -> x.look(0, wrong));
            scene.badIndex("of " + wrong, x -> x.of(wrong, 0));
            scene.badIndex("of for " + wrong, x -> x.of(0, wrong));
        }
        scene.badArgument("declaration of an officer", x -> x.declaration(0, Desk.OFFICER));
        scene.badArgument("event for NOW", x -> x.event(0, 0, 0, x.count(4)));
        scene.badArgument("tick(NOW - 1)", x -> x.tick(x.count(4) - 1));
    }

    private static void refusals(Scene scene) {
        scene.keeps("hours(4, 25)", 0, x -> x.hours(4, 25) ? 1 : 0);
        scene.keeps("hours(-1, 19)", 0, x -> x.hours(-1, 19) ? 1 : 0);
        scene.keeps("hours(7, 7)", 0, x -> x.hours(7, 7) ? 1 : 0);
        scene.keeps("fails(10, true)", 0, x -> x.fails(10, true) ? 1 : 0);
        scene.keeps("fails(-1, false)", 0, x -> x.fails(-1, false) ? 1 : 0);
        scene.keeps("fails(SELECT, true)", 0, x -> x.fails(Desk.SELECT, true) ? 1 : 0);
        scene.keeps("fails(PAY, false)", 0, x -> x.fails(Desk.PAY, false) ? 1 : 0);
        scene.keeps("bar(0, 3, true)", -1, x -> x.bar(0, 3, true));
        scene.keeps("bar(0, 4, false)", -1, x -> x.bar(0, 4, false));
        scene.keeps("bar(6, 0, true)", -1, x -> x.bar(6, 0, true));
        scene.keeps("bar(7, 0, true)", -1, x -> x.bar(7, 0, true));
        scene.keeps("no officer", 0, x -> x.invalidate(0, Desk.OWNER, 1));
        scene.keeps("no officer's second", 0, x -> x.invalidate(4, Desk.PORT, 1));
        scene.keeps("the same again", 0, x -> x.invalidate(4, Desk.OFFICER, 1));
        scene.keeps("no reason for a second", 0, x -> x.invalidate(4, Desk.OFFICER_TWO, 0));
        scene.keeps("no reason", 0, x -> x.invalidate(8, Desk.OFFICER, 0));
        for (int state : new int[] {Desk.LEFT, Desk.INVALIDATED, Desk.CLEARED}) {
            scene.keeps("the state " + state, 0, x -> x.invalidate(state, Desk.OFFICER, 1));
        }
    }

    private static void reads(Scene scene) {
        scene.keeps("tick(NOW)", 0, x -> x.tick(x.count(4)));
        scene.keeps("count(9)", -1, x -> x.count(9));
        scene.keeps("look(4, 7)", Desk.OFFICER, x -> x.look(4, 7));
        scene.keeps("written(0, -1)", -1, x -> x.written(0, -1));
        scene.keeps("of(0, 0)", 1, x -> x.of(0, 0));
    }

    private static void noRoom(Scene scene) {
        scene.badState("a 13th person", x -> x.person(0));
        scene.badState("a 21st declaration", x -> x.declaration(0, 0));
        scene.badState("one more event", x -> x.event(0, Desk.PRESENT, Desk.PORT, LAST_TIME));
        scene.badState("one more event for the next hour", x -> x.event(0, 0, 0, x.count(4) + 1));
    }

    private static void refusedEvents() {
        for (int act = 0; act <= 9; act++) {
            refusedAct(act);
        }
        Scene scene = othersFail(NO_ACT);
        scene.refusedEvent(4, Desk.PRESENT, Desk.PORT, OPEN, 1);
        scene.refusedEvent(4, Desk.REVIEW, Desk.OFFICER, OPEN, 1);
    }

    // Nothing waits any more, and all acts fail but one.
    private static Scene othersFail(int act) {
        return busy().then("all fail but " + act, x -> {
            x.tick(CLOSED - 1);
            for (int kind = 0; kind <= 9; kind++) {
                x.fails(kind, kind != act);
            }
        });
    }

    private static void refusedAct(int act) {
        Scene scene = othersFail(act);
        boolean officers = act >= Desk.ACCEPT && act <= Desk.BAD || act == Desk.REVIEW;
        int who = officers ? Desk.OFFICER : act == Desk.LEAVE ? Desk.PORT : Desk.OWNER;
        int nobody = officers ? Desk.PORT : Desk.OFFICER;
        for (int declaration : new int[] {4, Desk.INVALIDATED}) {
            scene.refusedEvent(declaration, act, nobody, OPEN, 2);
            scene.refusedEvent(declaration, act, nobody, CLOSED, 2);
            scene.refusedEvent(Desk.INVALIDATED, act, who, OPEN, 4);
            if (officers) {
                scene.refusedEvent(declaration, act, who, CLOSED, 3);
            }
        }
        if (act == Desk.PAY) {
            scene.refusedEvent(2, act, who, OPEN, 5);
        }
    }
}
