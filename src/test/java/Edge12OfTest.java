/** Promise 12: "IndexOutOfBoundsException if there is none such, or no such what." */
public final class Edge12OfTest {
    private static final Checks C = new Checks();

    public static void main(String[] args) {
        events();
        whats();
        waitsOrNot();
        C.end();
    }

    private static void events() {
        int[][] many = {{0, 0}, {1, 0}, {1, 1}, {20, 20}, {119, 0}, {120, 0}, {120, 20}};
        for (int[] one : many) {
            Scene scene = Scenes.events(C, one[0], one[1]);
            for (int e : new int[] {Integer.MIN_VALUE, -1, one[0], 120, Integer.MAX_VALUE}) {
                for (int what : new int[] {-1, 0, 5, 6}) {
                    scene.badIndex("of(" + e + ", " + what + ")", x -> x.of(e, what));
                }
            }
            for (int e = 0; e < one[0]; e++) {
                int number = e;
                scene.taken("of(" + e + ", 3)", e + 1, x -> x.of(number, 3));
            }
        }
    }

    private static void whats() {
        Scene scene = Scenes.declarations(C, 3).then("an event", x -> x.event(2, Desk.MEND, Desk.PORT, 33));
        int[] due = {2, Desk.MEND, Desk.PORT, 33, 1, -1};
        int[] behind = {2, Desk.MEND, Desk.PORT, 33, 0, -3};
        Scene settled = scene.then("settled", x -> x.tick(40));
        for (int what = 0; what <= 5; what++) {
            int good = what;
            scene.keeps("of(0, " + what + ")", due[what], x -> x.of(0, good));
            settled.keeps("of(0, " + what + ")", behind[what], x -> x.of(0, good));
        }
        for (int what : new int[] {Integer.MIN_VALUE, -1, 6, Integer.MAX_VALUE}) {
            scene.badIndex("of(0, " + what + ")", x -> x.of(0, what));
            settled.badIndex("of(0, " + what + ")", x -> x.of(0, what));
        }
    }

    // "1 if it WAITS, else 0; its RESULT (NONE while it waits)"
    private static void waitsOrNot() {
        Scene scene = Scenes.events(C, 20, 20);
        for (int time = 0; time <= 20; time++) {
            int now = time;
            DeclareStates x = scene.taken("tick(" + time + ")", time, y -> y.tick(now));
            for (int e = 0; e < 20; e++) {
                boolean waits = e + 1 > time;
                C.due(e + " waits at " + time, waits ? 1 : 0, x.of(e, 4));
                C.due("result of " + e + " at " + time, waits ? -1 : -5, x.of(e, 5));
            }
        }
    }
}
