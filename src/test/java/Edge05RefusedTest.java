/** "REFUSED is an event, and nothing changes, by the first of" five reasons: each pair that can meet, both ways. */
public final class Edge05RefusedTest {
    private static final int FAIL = 1;
    private static final int ROLE = 2;
    private static final int HOURS = 3;
    private static final int STATE = 4;
    private static final int MARK = 5;
    private static final Checks C = new Checks();

    public static void main(String[] args) {
        failureFirst();
        roleSecond();
        hoursThird();
        stateAheadOfMark();
        kindOfDeclaration();
        results();
        C.end();
    }

    private static Scene closed(Scene scene) {
        return scene.then("open at 23 alone", x -> x.hours(23, 24));
    }

    private static Scene failing(Scene scene, int act) {
        return scene.then("act " + act + " fails", x -> x.fails(act, true));
    }

    private static void failureFirst() {
        Scene lodged = Scenes.inState(C, Desk.IMPORT, Desk.LODGED);
        lodged.refusedEvent(0, Desk.LODGE, Desk.TRADER, 50, ROLE);
        failing(lodged, Desk.LODGE).refusedEvent(0, Desk.LODGE, Desk.TRADER, 50, FAIL);
        closed(lodged).refusedEvent(0, Desk.SELECT, Desk.OFFICER, 50, HOURS);
        failing(closed(lodged), Desk.SELECT).refusedEvent(0, Desk.SELECT, Desk.OFFICER, 50, FAIL);
        lodged.refusedEvent(0, Desk.LODGE, Desk.OWNER, 50, STATE);
        failing(lodged, Desk.LODGE).refusedEvent(0, Desk.LODGE, Desk.OWNER, 50, FAIL);
        lodged.refusedEvent(0, Desk.ACCEPT, Desk.OFFICER, 50, MARK);
        failing(lodged, Desk.ACCEPT).refusedEvent(0, Desk.ACCEPT, Desk.OFFICER, 50, FAIL);
        // What fails is a kind of act: another kind is not refused by it.
        failing(lodged, Desk.ACCEPT).refusedEvent(0, Desk.SELECT, Desk.OFFICER, 50, STATE);
        failing(lodged, Desk.ACCEPT).done(0, Desk.PRESENT, Desk.PORT, 50, Desk.LODGED);
    }

    private static void roleSecond() {
        Scene lodged = Scenes.inState(C, Desk.IMPORT, Desk.LODGED);
        closed(lodged).refusedEvent(0, Desk.SELECT, Desk.OWNER, 50, ROLE);
        closed(lodged).refusedEvent(0, Desk.SELECT, Desk.PORT, 50, ROLE);
        lodged.refusedEvent(0, Desk.SELECT, Desk.OWNER, 50, ROLE);
        lodged.refusedEvent(0, Desk.PAY, Desk.TRADER, 50, ROLE);
        lodged.refusedEvent(0, Desk.PAY, Desk.OWNER, 50, STATE);
        lodged.refusedEvent(0, Desk.ACCEPT, Desk.TRADER, 50, ROLE);
        Scene paid = Scenes.held(C, Desk.IMPORT, Desk.ACCEPTED, 3);
        paid.refusedEvent(0, Desk.PAY, Desk.TRADER, 50, ROLE);
        paid.refusedEvent(0, Desk.PAY, Desk.OWNER, 50, MARK);
        paid.refusedEvent(0, Desk.MEND, Desk.TRADER, 50, ROLE);
        paid.refusedEvent(0, Desk.MEND, Desk.OWNER, 50, MARK);
        paid.refusedEvent(0, Desk.PRESENT, Desk.OFFICER, 50, ROLE);
        paid.refusedEvent(0, Desk.PRESENT, Desk.TRADER, 50, MARK);
    }

    private static void hoursThird() {
        Scene lodged = Scenes.inState(C, Desk.IMPORT, Desk.LODGED);
        closed(lodged).refusedEvent(0, Desk.REVIEW, Desk.OFFICER, 46, HOURS);
        closed(lodged).refusedEvent(0, Desk.REVIEW, Desk.OFFICER, 47, STATE);
        closed(lodged).refusedEvent(0, Desk.REVIEW, Desk.OFFICER, 48, HOURS);
        closed(lodged).refusedEvent(0, Desk.ACCEPT, Desk.OFFICER, 46, HOURS);
        closed(lodged).refusedEvent(0, Desk.ACCEPT, Desk.OFFICER, 47, MARK);
        closed(lodged).refusedEvent(0, Desk.ACCEPT, Desk.OFFICER, 48, HOURS);
    }

    private static void stateAheadOfMark() {
        Scene prepared = Scenes.inState(C, Desk.IMPORT, Desk.PREPARED);
        prepared.refusedEvent(0, Desk.ACCEPT, Desk.OFFICER, 50, STATE);
        prepared.refusedEvent(0, Desk.MEND, Desk.OWNER, 50, STATE);
        Scene checked = Scenes.held(C, Desk.IMPORT, Desk.UNDER_CHECK, 3);
        checked.refusedEvent(0, Desk.PRESENT, Desk.PORT, 50, STATE);
        checked.refusedEvent(0, Desk.PAY, Desk.OWNER, 50, MARK);
        Scene released = Scenes.inState(C, Desk.IMPORT, Desk.RELEASED);
        released.refusedEvent(0, Desk.PRESENT, Desk.PORT, 50, STATE);
        released.refusedEvent(0, Desk.PAY, Desk.OWNER, 50, STATE);
        released.refusedEvent(0, Desk.MEND, Desk.OWNER, 50, STATE);
    }

    // "4 the state (or kind of declaration) bars it"
    private static void kindOfDeclaration() {
        for (int kind = 0; kind <= 2; kind++) {
            Scene released = Scenes.inState(C, kind, Desk.RELEASED);
            if (kind == Desk.IMPORT) {
                released.refusedEvent(0, Desk.LEAVE, Desk.PORT, 50, STATE);
                released.done(0, Desk.REVIEW, Desk.OFFICER, 50, Desk.CLEARED);
            } else {
                released.done(0, Desk.LEAVE, Desk.PORT, 50, Desk.LEFT);
                released.refusedEvent(0, Desk.REVIEW, Desk.OFFICER, 50, STATE);
                Scenes.inState(C, kind, Desk.LEFT).done(0, Desk.REVIEW, Desk.OFFICER, 50, Desk.CLEARED);
            }
        }
    }

    // "its RESULT: the state behind it .., or -1 less the reason"
    private static void results() {
        Scene lodged = closed(Scenes.inState(C, Desk.IMPORT, Desk.LODGED));
        failing(lodged, Desk.PAY).done(0, Desk.PAY, Desk.OWNER, 47, -2);
        lodged.done(0, Desk.PAY, Desk.TRADER, 47, -3);
        lodged.done(0, Desk.ACCEPT, Desk.OFFICER, 48, -4);
        lodged.done(0, Desk.PAY, Desk.OWNER, 47, -5);
        lodged.done(0, Desk.ACCEPT, Desk.OFFICER, 47, -6);
    }
}
