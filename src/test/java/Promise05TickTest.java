public final class Promise05TickTest {
    private static final Checks C = new Checks();

    public static void main(String[] args) {
        wrongTimes();
        carriedOutInOrder();
        waitsTillItsTime();
        everyActFromEveryState();
        marksRefuse();
        reasonsInOrder();
        releaseBehindEvents();
        C.end();
    }

    private static void wrongTimes() {
        DeclareStates x = new Desk().x;
        C.badArgument("tick(-1)", () -> x.tick(-1));
        C.due("tick(30)", 0, x.tick(30));
        C.badArgument("tick(29) at NOW 30", () -> x.tick(29));
        C.due("tick(30) again", 0, x.tick(30));
        C.badArgument("tick(100001)", () -> x.tick(100001));
        C.due("NOW behind wrong times", 30, x.count(4));
        C.due("tick(100000)", 0, x.tick(100000));
    }

    private static void carriedOutInOrder() {
        DeclareStates x = new Desk().x;
        x.declaration(Desk.EXPORT, Desk.OWNER);
        x.event(0, Desk.SELECT, Desk.OFFICER, 9);
        x.event(0, Desk.ACCEPT, Desk.OFFICER, 8);
        x.event(0, Desk.LODGE, Desk.OWNER, 8);
        x.event(0, Desk.LODGE, Desk.TRADER, 8);
        x.event(0, Desk.PAY, Desk.OWNER, 7);
        C.due("tick(20)", 5, x.tick(20));
        int[] results = {-5, Desk.LODGED, -3, Desk.ACCEPTED, Desk.UNDER_CHECK};
        int[] kinds = {Desk.PAY, Desk.LODGE, Desk.LODGE, Desk.ACCEPT, Desk.SELECT};
        for (int i = 0; i < kinds.length; i++) {
            C.due("written " + i, 16 * (results[i] + 8) + kinds[i], x.written(0, i));
        }
        C.due("the state changed at the event's time", 9, x.look(0, 6));
        C.due("NOW is the told time", 20, x.count(4));
    }

    private static void waitsTillItsTime() {
        DeclareStates x = new Desk().x;
        x.declaration(Desk.IMPORT, Desk.OWNER);
        x.event(0, Desk.LODGE, Desk.OWNER, 10);
        C.due("tick(9)", 0, x.tick(9));
        C.due("state at 9", Desk.PREPARED, x.look(0, 0));
        C.due("tick(10)", 1, x.tick(10));
        C.due("state at 10", Desk.LODGED, x.look(0, 0));
        C.due("tick(10) again", 0, x.tick(10));
    }

    private static void everyActFromEveryState() {
        for (int kind = 0; kind < 3; kind++) {
            for (int state = 0; state < 8; state++) {
                for (int act = 0; act < 10; act++) {
                    for (int who = 0; who < 5; who++) {
                        if (Desk.reaches(kind, state)) {
                            checkAct(kind, state, act, who);
                        }
                    }
                }
            }
        }
    }

    private static void checkAct(int kind, int state, int act, int who) {
        Desk desk = new Desk();
        int d = desk.inState(kind, state);
        String call = "act " + act + " by " + who + " on kind " + kind + " in state " + state;
        C.due("the state before " + call, state, desk.x.look(d, 0));
        int changed = desk.x.look(d, 6);
        int want = ActTable.due(desk.x, d, act, who);
        C.due(call, want, desk.act(d, act, who));
        C.due("the state behind " + call, want < 0 ? state : want, desk.x.look(d, 0));
        int when = want < 0 || want == state ? changed : desk.x.count(4);
        C.due("the change behind " + call, when, desk.x.look(d, 6));
    }

    private static void marksRefuse() {
        Desk desk = new Desk();
        for (int kind = 0; kind < 3; kind++) {
            int d = desk.x.declaration(kind, Desk.OWNER);
            desk.x.bar(d, 1, true);
            desk.act(d, Desk.LODGE, Desk.OWNER);
            int accepted = desk.act(d, Desk.ACCEPT, Desk.OFFICER);
            C.due("ACCEPT of kind " + kind + " not PRESENTED", kind == Desk.EXPORT ? Desk.ACCEPTED : -6, accepted);
            int stays = desk.x.look(d, 0);
            C.due("PRESENT", stays, desk.act(d, Desk.PRESENT, Desk.TRADER));
            C.due("PRESENT again", -6, desk.act(d, Desk.PRESENT, Desk.PORT));
            desk.act(d, Desk.ACCEPT, Desk.OFFICER);
            C.due("MEND not FAULTY", -6, desk.act(d, Desk.MEND, Desk.OWNER));
            C.due("PAY", Desk.ACCEPTED, desk.act(d, Desk.PAY, Desk.OWNER));
            C.due("PAY again", -6, desk.act(d, Desk.PAY, Desk.OWNER));
            desk.act(d, Desk.SELECT, Desk.OFFICER);
            C.due("BAD", Desk.ACCEPTED, desk.act(d, Desk.BAD, Desk.OFFICER));
            C.due("marks", 7, desk.x.look(d, 3));
            desk.act(d, Desk.SELECT, Desk.OFFICER);
            C.due("MEND under check", Desk.UNDER_CHECK, desk.act(d, Desk.MEND, Desk.OWNER));
            C.due("marks mended", 3, desk.x.look(d, 3));
            C.due("MEND again", -6, desk.act(d, Desk.MEND, Desk.OWNER));
        }
    }

    private static void reasonsInOrder() {
        Desk desk = new Desk();
        int d = desk.inState(Desk.IMPORT, Desk.PREPARED);
        desk.x.hours(23, 24);
        desk.x.fails(Desk.ACCEPT, true);
        C.due("fails, wrong role, hours, state", -2, desk.act(d, Desk.ACCEPT, Desk.OWNER));
        C.due("wrong role, hours, state", -3, desk.act(d, Desk.ACCEPT, Desk.OWNER));
        C.due("hours, state", -4, desk.act(d, Desk.ACCEPT, Desk.OFFICER));
        desk.x.hours(0, 24);
        C.due("state, mark", -5, desk.act(d, Desk.ACCEPT, Desk.OFFICER));
        desk.act(d, Desk.LODGE, Desk.OWNER);
        C.due("mark", -6, desk.act(d, Desk.ACCEPT, Desk.OFFICER));
    }

    private static void releaseBehindEvents() {
        Desk desk = new Desk();
        int paid = desk.x.declaration(Desk.IMPORT, Desk.OWNER);
        desk.act(paid, Desk.PRESENT, Desk.PORT);
        desk.act(paid, Desk.LODGE, Desk.OWNER);
        C.due("ACCEPT of an import not PAID", Desk.ACCEPTED, desk.act(paid, Desk.ACCEPT, Desk.OFFICER));
        C.due("PAY releases", Desk.RELEASED, desk.act(paid, Desk.PAY, Desk.OWNER));
        C.due("when it was released", desk.x.count(4), desk.x.look(paid, 6));

        int transit = desk.x.declaration(Desk.TRANSIT, Desk.OWNER);
        desk.act(transit, Desk.PRESENT, Desk.PORT);
        desk.act(transit, Desk.LODGE, Desk.OWNER);
        C.due("ACCEPT of a transit releases", Desk.RELEASED, desk.act(transit, Desk.ACCEPT, Desk.OFFICER));

        int export = desk.x.declaration(Desk.EXPORT, Desk.OWNER);
        desk.act(export, Desk.LODGE, Desk.OWNER);
        desk.act(export, Desk.ACCEPT, Desk.OFFICER);
        C.due("PRESENT releases", Desk.RELEASED, desk.act(export, Desk.PRESENT, Desk.OWNER));

        int checked = desk.inState(Desk.EXPORT, Desk.UNDER_CHECK);
        desk.x.bar(checked, 0, false);
        C.due("BAD does not release", Desk.ACCEPTED, desk.act(checked, Desk.BAD, Desk.OFFICER));
        C.due("MEND releases", Desk.RELEASED, desk.act(checked, Desk.MEND, Desk.OWNER));
        int good = desk.inState(Desk.IMPORT, Desk.UNDER_CHECK);
        desk.x.bar(good, 0, false);
        C.due("GOOD releases", Desk.RELEASED, desk.act(good, Desk.GOOD, Desk.OFFICER_TWO));
    }
}
