/**
 * Promise 5, and of the terms: "TIME is 0 .. 100000 (hours); NOW is the latest that was told (0 at first)" and the
 * order of events: "by their times, then by RANK (the kind's number), then as they were told".
 */
public final class Edge05TickTest {
    private static final Checks C = new Checks();
    private static final int LAST_TIME = 100000;

    public static void main(String[] args) {
        aheadOfNow();
        lastTime();
        dueOrNotYet();
        howMany();
        byTimes();
        byRank();
        asTheyWereTold();
        C.end();
    }

    // "IllegalArgumentException if it is ahead of NOW"
    private static void aheadOfNow() {
        for (int now : new int[] {0, 1, 30, LAST_TIME - 1}) {
            Scene at = Scenes.declarations(C, 1).then("NOW " + now, x -> {
                x.tick(now);
                x.event(0, Desk.LODGE, Desk.OWNER, now + 1);
            });
            at.badArgument("tick(MIN)", x -> x.tick(Integer.MIN_VALUE));
            at.badArgument("tick(-1)", x -> x.tick(-1));
            at.badArgument("tick(NOW - 1)", x -> x.tick(now - 1));
            at.keeps("tick(NOW)", 0, x -> x.tick(now));
            DeclareStates x = at.taken("tick(NOW + 1)", 1, y -> y.tick(now + 1));
            C.due("NOW", now + 1, x.count(4));
        }
    }

    // "or above 100000."
    private static void lastTime() {
        Scene one = Scenes.declarations(C, 1).then("an event for 100000", x ->
            x.event(0, Desk.LODGE, Desk.OWNER, LAST_TIME));
        one.badArgument("tick(100001)", x -> x.tick(LAST_TIME + 1));
        one.badArgument("tick(MAX)", x -> x.tick(Integer.MAX_VALUE));
        one.taken("tick(99999)", 0, x -> x.tick(LAST_TIME - 1));
        DeclareStates x = one.taken("tick(100000)", 1, y -> y.tick(LAST_TIME));
        C.due("NOW", LAST_TIME, x.count(4));
        C.due("its state", Desk.LODGED, x.look(0, 0));
        C.due("when it changed", LAST_TIME, x.look(0, 6));
        Scene end = one.then("NOW 100000", y -> y.tick(LAST_TIME));
        end.keeps("tick(100000)", 0, y -> y.tick(LAST_TIME));
        end.badArgument("tick(99999)", y -> y.tick(LAST_TIME - 1));
        end.badArgument("tick(100001)", y -> y.tick(LAST_TIME + 1));
    }

    // "they WAIT .. till that time is told, and are carried out then"
    private static void dueOrNotYet() {
        Scene one = Scenes.declarations(C, 1).then("an event for 40", x -> x.event(0, Desk.LODGE, Desk.OWNER, 40));
        DeclareStates ahead = one.taken("tick(39)", 0, x -> x.tick(39));
        C.due("it waits", 1, ahead.of(0, 4));
        C.due("the state ahead of it", Desk.PREPARED, ahead.look(0, 0));
        for (int time : new int[] {40, 41, LAST_TIME}) {
            DeclareStates x = one.taken("tick(" + time + ")", 1, y -> y.tick(time));
            C.due("it waits no more", 0, x.of(0, 4));
            C.due("the state behind it", Desk.LODGED, x.look(0, 0));
            C.due("it changed at the event's time", 40, x.look(0, 6));
            C.due("NOW is what was told", time, x.count(4));
        }
        one.then("settled", x -> x.tick(40)).keeps("tick(40) again", 0, x -> x.tick(40));
    }

    // "how many events were carried out by it, refused ones too"
    private static void howMany() {
        Scenes.declarations(C, 1).keeps("tick(0) without events", 0, x -> x.tick(0));
        for (int many = 1; many <= 20; many++) {
            int waiting = many;
            Scene refused = Scenes.events(C, many, many);
            DeclareStates x = refused.taken("all of them", many, y -> y.tick(waiting));
            C.due("none waits", 0, x.count(3));
            C.due("all are written", many, x.look(0, 5));
            C.due("the last result", ActTable.BY_STATE, x.of(many - 1, 5));
            DeclareStates rest = refused.taken("all but one", many - 1, y -> y.tick(waiting - 1));
            C.due("one waits", 1, rest.count(3));
        }
        Scene both = Scenes.declarations(C, 1).then("one that goes, one that does not", x -> {
            x.event(0, Desk.LODGE, Desk.OWNER, 3);
            x.event(0, Desk.LODGE, Desk.TRADER, 3);
        });
        both.taken("tick(3)", 2, x -> x.tick(3));
    }

    private static void writtenKinds(DeclareStates x, int... kinds) {
        for (int i = 0; i < kinds.length; i++) {
            C.due("kind of written " + i, kinds[i], x.written(0, i) % 16);
        }
        C.due("how many are written", kinds.length, x.look(0, 5));
    }

    // An earlier time goes ahead of a lower rank and of what was told before.
    private static void byTimes() {
        Scene two = Scenes.declarations(C, 1).then("MEND for 5, LODGE for 6", x -> {
            x.event(0, Desk.LODGE, Desk.OWNER, 6);
            x.event(0, Desk.MEND, Desk.OWNER, 5);
        });
        writtenKinds(two.taken("tick(6)", 2, x -> x.tick(6)), Desk.MEND, Desk.LODGE);
        writtenKinds(two.taken("tick(100)", 2, x -> x.tick(100)), Desk.MEND, Desk.LODGE);
        DeclareStates ends = Scenes.declarations(C, 1).then("times 100000 to 99981", x -> {
            for (int i = 0; i < 20; i++) {
                x.event(0, i % 10, Desk.OWNER, LAST_TIME - i);
            }
        }).taken("tick(100000)", 20, x -> x.tick(LAST_TIME));
        writtenKinds(ends, 9, 8, 7, 6, 5, 4, 3, 2, 1, 0, 9, 8, 7, 6, 5, 4, 3, 2, 1, 0);
    }

    // At one time the lower rank goes ahead of what was told before.
    private static void byRank() {
        DeclareStates down = Scenes.declarations(C, 1).then("kinds 9 to 0", x -> {
            for (int kind = 9; kind >= 0; kind--) {
                x.event(0, kind, Desk.OWNER, 7);
            }
        }).taken("tick(7)", 10, x -> x.tick(7));
        writtenKinds(down, 0, 1, 2, 3, 4, 5, 6, 7, 8, 9);
        for (int kind = 0; kind < 9; kind++) {
            int rank = kind;
            DeclareStates x = Scenes.declarations(C, 1).then("ranks " + (kind + 1) + " and " + kind, y -> {
                y.event(0, rank + 1, Desk.OWNER, 7);
                y.event(0, rank, Desk.OWNER, 7);
            }).taken("tick(7)", 2, y -> y.tick(7));
            writtenKinds(x, kind, kind + 1);
        }
    }

    // The order is that of all events, of whichever declaration: the first one is the one that fails.
    private static void asTheyWereTold() {
        Scene three = Scenes.declarations(C, 3).then("LODGE of 2, 0 and 1, which fails once", x -> {
            x.event(2, Desk.LODGE, Desk.OWNER, 7);
            x.event(0, Desk.LODGE, Desk.OWNER, 7);
            x.event(1, Desk.LODGE, Desk.OWNER, 7);
            x.fails(Desk.LODGE, true);
        });
        DeclareStates x = three.taken("tick(7)", 3, y -> y.tick(7));
        C.due("told first", -2, x.of(0, 5));
        C.due("told second", Desk.LODGED, x.of(1, 5));
        C.due("told third", Desk.LODGED, x.of(2, 5));
        DeclareStates same = Scenes.declarations(C, 1).then("20 times PRESENT", y -> {
            for (int i = 0; i < 20; i++) {
                y.event(0, Desk.PRESENT, Desk.PORT, 7);
            }
        }).taken("tick(7)", 20, y -> y.tick(7));
        for (int i = 0; i < 20; i++) {
            C.due("PRESENT " + i, i == 0 ? Desk.PREPARED : ActTable.BY_MARK, same.of(i, 5));
        }
    }
}
