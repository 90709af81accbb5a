/**
 * The terms' table "An event DOES, from which states, by which role", on both sides of each of its conditions; and
 * "REFUSED is an event, and nothing changes".
 */
public final class Edge05ActsTest {
    private static final Checks C = new Checks();

    public static void main(String[] args) {
        for (int kind = 0; kind <= 2; kind++) {
            ahead(kind);
            held(kind);
            behind(kind);
        }
        C.end();
    }

    private static void ahead(int kind) {
        for (int state : new int[] {Desk.PREPARED, Desk.LODGED}) {
            everyAct(Scenes.inState(C, kind, state));
            everyAct(Scenes.inState(C, kind, state).then("PRESENTED", x -> {
                int time = x.count(4) + 1;
                x.event(0, Desk.PRESENT, Desk.PORT, time);
                x.tick(time);
                x.bar(0, 0, true);
            }));
        }
    }

    private static void held(int kind) {
        for (int marks = 0; marks <= 7; marks++) {
            if (Desk.canHold(kind, marks)) {
                everyAct(Scenes.held(C, kind, Desk.ACCEPTED, marks));
                everyAct(Scenes.held(C, kind, Desk.UNDER_CHECK, marks));
            }
        }
    }

    private static void behind(int kind) {
        for (int state = Desk.RELEASED; state <= Desk.CLEARED; state++) {
            if (Desk.reaches(kind, state)) {
                everyAct(Scenes.inState(C, kind, state));
            }
        }
    }

    private static void everyAct(Scene scene) {
        for (int act = 0; act <= 9; act++) {
            for (int who = 0; who < 5; who++) {
                checkAct(scene, act, who);
            }
        }
    }

    private static void checkAct(Scene scene, int act, int who) {
        DeclareStates ahead = scene.make();
        int due = ActTable.due(ahead, 0, act, who);
        int time = ahead.count(4) + 3;
        if (due < 0) {
            scene.refusedEvent(0, act, who, time, -1 - due);
            return;
        }
        int state = ahead.look(0, 0);
        DeclareStates x = scene.done(0, act, who, time, due);
        int[] looks = {due, ahead.look(0, 1), ahead.look(0, 2), ActTable.marksBehind(act, ahead.look(0, 3)),
            ahead.look(0, 4), ahead.look(0, 5) + 1, due == state ? ahead.look(0, 6) : time, -1, ahead.look(0, 8)};
        for (int what = 0; what < looks.length; what++) {
            C.due("look(0, " + what + ") behind act " + act + " from state " + state, looks[what], x.look(0, what));
        }
    }
}
