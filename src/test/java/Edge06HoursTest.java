/** Promise 6, and of the terms: "outside of the office's HOURS: time mod 24 in from .. to - 1 (8 and 16 at first)". */
public final class Edge06HoursTest {
    private static final int LAST_TIME = 100000;
    private static final Checks C = new Checks();

    public static void main(String[] args) {
        everyPair();
        farPairs();
        refusedKeepsWhatWasTold();
        edgesOfTheHours();
        officersActsAlone();
        hoursOfTheCarryingOut();
        daysWrapAround();
        C.end();
    }

    // SELECT of a PREPARED one is refused by its state when the office is open, and by the hours when it is not.
    private static Scene office() {
        return Scenes.people(C, 3).then("a declaration", x -> x.declaration(0, 0));
    }

    private static Scene open(int from, int to) {
        return office().then("hours(" + from + ", " + to + ")", x -> x.hours(from, to));
    }

    // "true; false if they are not 0 .. 24, or from is not ahead of to."
    private static void everyPair() {
        for (int from = -2; from <= 26; from++) {
            for (int to = -2; to <= 26; to++) {
                checkPair(from, to);
            }
        }
    }

    private static void checkPair(int from, int to) {
        String call = "hours(" + from + ", " + to + ")";
        boolean good = from >= 0 && from <= 24 && to >= 0 && to <= 24 && from < to;
        if (good) {
            office().taken(call, 1, x -> x.hours(from, to) ? 1 : 0);
        } else {
            office().keeps(call, 0, x -> x.hours(from, to) ? 1 : 0);
        }
    }

    private static void farPairs() {
        int[] far = {Integer.MIN_VALUE, Integer.MIN_VALUE + 24, Integer.MAX_VALUE - 1, Integer.MAX_VALUE};
        for (int from : far) {
            checkPair(from, 16);
            checkPair(8, from);
            for (int to : far) {
                checkPair(from, to);
            }
        }
    }

    // "What throws or is refused changes nothing": not even the one of the two that is good.
    private static void refusedKeepsWhatWasTold() {
        Scene noon = open(10, 12);
        noon.keeps("hours(9, 25)", 0, x -> x.hours(9, 25) ? 1 : 0);
        noon.keeps("hours(-1, 13)", 0, x -> x.hours(-1, 13) ? 1 : 0);
        noon.keeps("hours(11, 11)", 0, x -> x.hours(11, 11) ? 1 : 0);
        noon.keeps("hours(14, 13)", 0, x -> x.hours(14, 13) ? 1 : 0);
        // Told again they are as they were, and still true.
        noon.keeps("hours(10, 12)", 1, x -> x.hours(10, 12) ? 1 : 0);
    }

    private static void atHour(Scene scene, int hour, boolean open) {
        for (int day = 1; day <= 2; day++) {
            scene.refusedEvent(0, Desk.SELECT, 1, 24 * day + hour, open ? 4 : 3);
        }
    }

    private static void edgesOfTheHours() {
        int[][] pairs = {{0, 1}, {0, 24}, {23, 24}, {8, 16}, {1, 23}, {12, 13}};
        for (int[] pair : pairs) {
            Scene scene = open(pair[0], pair[1]);
            if (pair[0] > 0) {
                atHour(scene, pair[0] - 1, false);
            }
            atHour(scene, pair[0], true);
            atHour(scene, pair[1] - 1, true);
            if (pair[1] < 24) {
                atHour(scene, pair[1], false);
            }
        }
    }

    // "an officer's one (2 to 5, 8)": the others heed no hours.
    private static void officersActsAlone() {
        for (int act = 0; act <= 9; act++) {
            boolean officers = act >= 2 && act <= 5 || act == 8;
            int who = officers ? Desk.OFFICER : act == Desk.LEAVE ? Desk.PORT : Desk.OWNER;
            Scene over = Scenes.inState(C, Desk.EXPORT, Desk.INVALIDATED).then("open at 23", x -> x.hours(23, 24));
            over.refusedEvent(0, act, who, 46, officers ? 3 : 4);
            over.refusedEvent(0, act, who, 47, 4);
        }
        Scene closed = Scenes.inState(C, Desk.EXPORT, Desk.PREPARED).then("open at 23", x -> x.hours(23, 24));
        closed.done(0, Desk.LODGE, Desk.OWNER, 46, Desk.LODGED);
        closed.done(0, Desk.PRESENT, Desk.PORT, 46, Desk.PREPARED);
    }

    // The hours that are told when an event is carried out count, not those of its telling.
    private static void hoursOfTheCarryingOut() {
        Scene waits = office().then("SELECT for 10", x -> x.event(0, Desk.SELECT, 1, 10));
        DeclareStates open = waits.taken("tick(10)", 1, x -> x.tick(10));
        C.due("open at 10", -5, open.of(0, 5));
        DeclareStates closed = waits.then("hours(11, 12)", x -> x.hours(11, 12)).taken("tick(10)", 1, x -> x.tick(10));
        C.due("closed at 10", -4, closed.of(0, 5));
        // Its own time counts, not the later one that is told.
        DeclareStates late = waits.taken("tick(20)", 1, x -> x.tick(20));
        C.due("told for an open hour", -5, late.of(0, 5));
        DeclareStates early = office().then("SELECT for 20", x -> x.event(0, Desk.SELECT, 1, 20))
            .taken("tick(34)", 1, x -> x.tick(34));
        C.due("told for a closed hour", -4, early.of(0, 5));
    }

    private static void daysWrapAround() {
        Scene first = open(0, 1);
        first.refusedEvent(0, Desk.SELECT, 1, 23, 3);
        first.refusedEvent(0, Desk.SELECT, 1, 24, 4);
        first.refusedEvent(0, Desk.SELECT, 1, 25, 3);
        // 100000 is the hour 16 of its day.
        Scene usual = open(8, 16);
        usual.refusedEvent(0, Desk.SELECT, 1, LAST_TIME - 1, 4);
        usual.refusedEvent(0, Desk.SELECT, 1, LAST_TIME, 3);
        open(16, 17).refusedEvent(0, Desk.SELECT, 1, LAST_TIME, 4);
    }
}
