public final class Promise06HoursTest {
    private static final Checks C = new Checks();

    public static void main(String[] args) {
        DeclareStates x = new DeclareStates();
        C.due("hours(0, 24)", true, x.hours(0, 24));
        C.due("hours(0, 1)", true, x.hours(0, 1));
        C.due("hours(23, 24)", true, x.hours(23, 24));
        C.due("the same again", true, x.hours(23, 24));
        C.due("hours(-1, 5)", false, x.hours(-1, 5));
        C.due("hours(0, 25)", false, x.hours(0, 25));
        C.due("hours(8, 8)", false, x.hours(8, 8));
        C.due("hours(9, 8)", false, x.hours(9, 8));
        C.due("hours(24, 24)", false, x.hours(24, 24));
        C.due("hours(24, 25)", false, x.hours(24, 25));
        C.due("hours(MIN, MAX)", false, x.hours(Integer.MIN_VALUE, Integer.MAX_VALUE));
        openAtFirst();
        for (int hour = 0; hour < 24; hour++) {
            openOneHour(hour);
        }
        officersActsAlone();
        C.end();
    }

    private static DeclareStates withOfficerAndDeclaration() {
        DeclareStates x = new DeclareStates();
        x.person(1);
        x.person(0);
        x.declaration(0, 1);
        return x;
    }

    private static int resultAt(DeclareStates x, int time) {
        int event = x.event(0, Desk.SELECT, 0, time);
        x.tick(time);
        return x.of(event, 5);
    }

    private static void openAtFirst() {
        DeclareStates x = withOfficerAndDeclaration();
        for (int time = 1; time < 72; time++) {
            int hour = time % 24;
            C.due("SELECT at " + time, hour >= 8 && hour < 16 ? -5 : -4, resultAt(x, time));
        }
    }

    private static void openOneHour(int open) {
        DeclareStates x = withOfficerAndDeclaration();
        x.hours(open, open + 1);
        x.hours(5, 5);
        for (int time = 1; time < 49; time++) {
            C.due("SELECT at " + time + ", open at " + open, time % 24 == open ? -5 : -4, resultAt(x, time));
        }
    }

    private static void officersActsAlone() {
        for (int act = 0; act < 10; act++) {
            Desk desk = new Desk();
            int d = desk.inState(Desk.IMPORT, Desk.INVALIDATED);
            desk.x.hours(23, 24);
            boolean officers = act >= 2 && act <= 5 || act == 8;
            int who = officers ? Desk.OFFICER : act == Desk.LEAVE ? Desk.PORT : Desk.OWNER;
            C.due("act " + act + " outside of the hours", officers ? -4 : -5, desk.act(d, act, who));
        }
        eventsTimeCounts();
    }

    private static void eventsTimeCounts() {
        DeclareStates x = withOfficerAndDeclaration();
        x.event(0, Desk.SELECT, 0, 10);
        x.event(0, Desk.SELECT, 0, 20);
        x.tick(34);
        C.due("told for 10, carried out by tick(34)", -5, x.of(0, 5));
        C.due("told for 20, carried out by tick(34)", -4, x.of(1, 5));
    }
}
