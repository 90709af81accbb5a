import java.util.ArrayList;
import java.util.List;
import java.util.function.Supplier;
import java.util.function.ToIntFunction;

/**
 * All that can be known of an object: what its readers answer, and what later calls show of the rest.
 * Each few questions go to a new object of the same maker, so that none is called more than 512 times
 * and no question can spoil another.
 */
final class Picture {
    private static final int QUESTIONS = 100;
    private static final int LAST_TIME = 100000;

    private final Supplier<DeclareStates> maker;
    private final List<String> lines = new ArrayList<>();
    private final int people;
    private final int declared;
    private final int told;
    // The latest time that was told, or that an event was told for.
    private final int latest;
    private DeclareStates asked;
    private int left;

    private Picture(Supplier<DeclareStates> maker) {
        this.maker = maker;
        DeclareStates x = maker.get();
        people = x.count(0);
        declared = x.count(1);
        told = x.count(2);
        int time = x.count(4);
        for (int e = 0; e < told; e++) {
            time = Math.max(time, x.of(e, 3));
        }
        latest = time;
    }

    /** Everything. */
    static List<String> of(Supplier<DeclareStates> maker) {
        Picture picture = new Picture(maker);
        picture.people();
        picture.declarations();
        picture.events();
        picture.failing();
        picture.rolesAndHours();
        picture.lines.addAll(whenAllIsCarriedOut(maker));
        return picture.lines;
    }

    /** Everything but the events and what was written of them. */
    static List<String> withoutEvents(Supplier<DeclareStates> maker) {
        Picture picture = new Picture(maker);
        picture.people();
        picture.declarations();
        picture.failing();
        picture.rolesAndHours();
        return picture.lines;
    }

    // The order in which events wait is seen in what is written of them.
    private static List<String> whenAllIsCarriedOut(Supplier<DeclareStates> maker) {
        Picture picture = new Picture(() -> {
            DeclareStates x = maker.get();
            x.tick(LAST_TIME);
            return x;
        });
        picture.declarations();
        picture.events();
        return picture.lines;
    }

    private void ask(String question, ToIntFunction<DeclareStates> made) {
        if (left == 0) {
            useNewObject();
        }
        left--;
        DeclareStates x = asked;
        lines.add(question + ": " + Checks.answerOf(() -> made.applyAsInt(x)));
    }

    private void useNewObject() {
        asked = maker.get();
        left = QUESTIONS;
    }

    private void people() {
        for (int what : new int[] {0, 1, 4}) {
            ask("count(" + what + ")", x -> x.count(what));
        }
        useNewObject();
        for (int i = 0; i <= 12; i++) {
            ask("one more person", x -> x.person(0));
        }
        useNewObject();
    }

    private void declarations() {
        for (int state = 0; state < 8; state++) {
            int what = 10 + state;
            ask("count(" + what + ")", x -> x.count(what));
        }
        for (int d = 0; d <= declared; d++) {
            for (int what = 0; what <= 8; what++) {
                look(d, what);
            }
        }
    }

    private void look(int declaration, int what) {
        // How many were written belongs to the events.
        if (what != 5) {
            ask("look(" + declaration + ", " + what + ")", x -> x.look(declaration, what));
        }
    }

    private void events() {
        ask("count(2)", x -> x.count(2));
        ask("count(3)", x -> x.count(3));
        for (int e = 0; e <= told; e++) {
            for (int what = 0; what <= 5; what++) {
                of(e, what);
            }
        }
        DeclareStates counted = maker.get();
        for (int d = 0; d < declared; d++) {
            int number = d;
            ask("look(" + d + ", 5)", x -> x.look(number, 5));
            for (int i = 0; i <= counted.look(d, 5); i++) {
                written(d, i);
            }
        }
    }

    private void of(int event, int what) {
        ask("of(" + event + ", " + what + ")", x -> x.of(event, what));
    }

    private void written(int declaration, int i) {
        ask("written(" + declaration + ", " + i + ")", x -> x.written(declaration, i));
    }

    private void failing() {
        useNewObject();
        for (int kind = 0; kind <= 9; kind++) {
            int act = kind;
            ask("fails(" + kind + ", false)", x -> x.fails(act, false) ? 1 : 0);
        }
        useNewObject();
    }

    private void rolesAndHours() {
        for (int who = 0; who <= people; who++) {
            for (int hour = 1; hour <= 24; hour++) {
                act(Desk.SELECT, who, latest + hour);
            }
            act(Desk.LEAVE, who, latest + 1);
            act(Desk.PRESENT, who, latest + 1);
        }
        useNewObject();
    }

    private void act(int kind, int who, int time) {
        useNewObject();
        // A newcomer is an officer, so that wherever there is room somebody can see the hours.
        ask("a newcomer", x -> x.person(1));
        ask("a declaration of 0", x -> x.declaration(0, 0));
        ask("tick(" + (time - 1) + ")", x -> x.tick(time - 1));
        // An act that fails would show neither roles nor hours.
        ask("fails(" + kind + ", false)", x -> x.fails(kind, false) ? 1 : 0);
        ask("result of act " + kind + " by " + who + " at " + time, x -> {
            int event = x.event(0, kind, who, time);
            x.tick(time);
            return x.of(event, 5);
        });
    }
}
