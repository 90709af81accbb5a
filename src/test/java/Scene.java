import java.util.List;
import java.util.function.Consumer;
import java.util.function.Supplier;
import java.util.function.ToIntFunction;

/** A way to make objects that are all alike, and calls on them: those that are taken, and those that keep all. */
final class Scene {
    private final Checks checks;
    private final String name;
    private final Supplier<DeclareStates> maker;
    private List<String> picture;

    Scene(Checks checks, String name, Supplier<DeclareStates> maker) {
        this.checks = checks;
        this.name = name;
        this.maker = maker;
    }

    DeclareStates make() {
        return maker.get();
    }

    /** The same with more calls made. */
    Scene then(String more, Consumer<DeclareStates> calls) {
        return new Scene(checks, name + ", " + more, () -> {
            DeclareStates x = maker.get();
            calls.accept(x);
            return x;
        });
    }

    /** The call answers what is due; the object behind it is handed out for a closer look. */
    DeclareStates taken(String call, int due, ToIntFunction<DeclareStates> made) {
        DeclareStates x = maker.get();
        checks.due(name + ": " + call, Integer.toString(due), Checks.answerOf(() -> made.applyAsInt(x)));
        return x;
    }

    /** The call answers what is due, and nothing has changed behind it. */
    void keeps(String call, int due, ToIntFunction<DeclareStates> made) {
        keepsAll(call, Integer.toString(due), made);
    }

    void badArgument(String call, ToIntFunction<DeclareStates> made) {
        keepsAll(call, "throws.IllegalArgumentException", made);
    }

    void badState(String call, ToIntFunction<DeclareStates> made) {
        keepsAll(call, "throws.IllegalStateException", made);
    }

    void badIndex(String call, ToIntFunction<DeclareStates> made) {
        keepsAll(call, "throws.IndexOutOfBoundsException", made);
    }

    private void keepsAll(String call, String due, ToIntFunction<DeclareStates> made) {
        DeclareStates one = maker.get();
        checks.due(name + ": " + call, due, Checks.answerOf(() -> made.applyAsInt(one)));
        if (picture == null) {
            picture = Picture.of(maker);
        }
        same(call, picture, Picture.of(() -> {
            DeclareStates x = maker.get();
            Checks.answerOf(() -> made.applyAsInt(x));
            return x;
        }));
    }

    /** An event is carried out at a time: its result, whatever that changes. */
    DeclareStates done(int declaration, int kind, int who, int time, int result) {
        return taken(eventName(declaration, kind, who, time), result, x -> tell(x, declaration, kind, who, time));
    }

    /** An event is refused at a time for a reason: it is written, and all else is as if only the time had come. */
    void refusedEvent(int declaration, int kind, int who, int time, int reason) {
        String call = eventName(declaration, kind, who, time);
        DeclareStates x = done(declaration, kind, who, time, -1 - reason);
        DeclareStates without = onlyTime(kind, time, reason);
        checks.due(call + ", events", without.count(2) + 1, x.count(2));
        checks.due(call + ", those that wait", without.count(3), x.count(3));
        int writings = without.look(declaration, 5);
        checks.due(call + ", how many are written", writings + 1, x.look(declaration, 5));
        for (int i = 0; i < writings; i++) {
            checks.due(call + ", written " + i, without.written(declaration, i), x.written(declaration, i));
        }
        checks.due(call + ", what is written", 16 * (7 - reason) + kind, x.written(declaration, writings));
        same(call, Picture.withoutEvents(() -> onlyTime(kind, time, reason)), Picture.withoutEvents(() -> {
            DeclareStates told = maker.get();
            tell(told, declaration, kind, who, time);
            return told;
        }));
    }

    private static String eventName(int declaration, int kind, int who, int time) {
        return "event(" + declaration + ", " + kind + ", " + who + ", " + time + ")";
    }

    private static int tell(DeclareStates x, int declaration, int kind, int who, int time) {
        int event = x.event(declaration, kind, who, time);
        x.tick(time);
        return x.of(event, 5);
    }

    private DeclareStates onlyTime(int kind, int time, int reason) {
        DeclareStates x = maker.get();
        if (reason == 1) {
            // A failure is used up by the event that fails.
            x.fails(kind, false);
        }
        x.tick(time);
        return x;
    }

    private void same(String call, List<String> before, List<String> behind) {
        checks.due(name + ": how much is known behind " + call, before.size(), behind.size());
        for (int i = 0; i < Math.min(before.size(), behind.size()); i++) {
            if (!before.get(i).equals(behind.get(i))) {
                checks.report(name + ": " + call + " changed " + before.get(i) + " to " + behind.get(i));
                return;
            }
        }
    }
}
