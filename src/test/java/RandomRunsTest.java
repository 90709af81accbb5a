import java.util.Random;

/**
 * Long runs of calls, the same each time: each answer or exception is the plain model's one.
 * The runs go on behind the 512 calls that the document promises, as the class has no need to stop there.
 */
public final class RandomRunsTest {
    private static final int RUNS = 600;
    private static final int CALLS = 512;
    private static final int[] STRANGE = {Integer.MIN_VALUE, -33, -1, 8, 9, 10, 12, 20, 24, 32, 120, 100001,
        Integer.MAX_VALUE};

    private static final Checks C = new Checks();
    private final Random random;
    private final DeclareStates x = new DeclareStates();
    private final PlainModel model = new PlainModel();
    private final String run;

    private RandomRunsTest(int seed) {
        random = new Random(seed);
        run = "run " + seed + ": ";
    }

    public static void main(String[] args) {
        // Behind a first wrong answer the rest of a run tells nothing new.
        for (int seed = 0; seed < RUNS && C.allAsDue(); seed++) {
            RandomRunsTest one = new RandomRunsTest(seed);
            one.begin();
            for (int i = 0; i < CALLS && C.allAsDue(); i++) {
                one.call();
            }
            one.compareAll();
        }
        C.end();
    }

    // Most runs begin with two people of each role, so that much can happen in them.
    private void begin() {
        for (int i = 0; i < 6 && random.nextInt(12) != 0; i++) {
            int role = i % 3;
            same("person(" + role + ")", () -> x.person(role), () -> model.person(role));
        }
        same("hours(1, 23)", () -> x.hours(1, 23) ? 1 : 0, () -> model.hours(1, 23));
    }

    // Mostly a number that is good, now and then a strange one.
    private int number(int below) {
        if (random.nextInt(40) == 0) {
            return STRANGE[random.nextInt(STRANGE.length)];
        }
        return random.nextInt(Math.max(1, below));
    }

    private int declarationNumber() {
        return number(Math.min(6, x.count(1)));
    }

    private int time() {
        return random.nextInt(200) == 0 ? number(100001) : x.count(4) + random.nextInt(6);
    }

    // Mostly somebody who may tell the act.
    private int likelyTeller(int declaration, int act) {
        boolean known = declaration >= 0 && declaration < x.count(1);
        if (!known || random.nextInt(6) == 0) {
            return number(x.count(0));
        }
        if (act == 0 || act == 6 || act == 9) {
            return x.look(declaration, 2);
        }
        return (act == 1 || act == 7 ? 2 : 1) + 3 * random.nextInt(2);
    }

    // Mostly an act that its declaration's state allows.
    private int likelyAct(int declaration) {
        int[][] likely = {{0, 1}, {1, 2, 2}, {1, 3, 6, 9}, {4, 5, 6, 9}, {7, 8}, {8}, {0}, {8}};
        if (declaration < 0 || declaration >= x.count(1) || random.nextInt(5) == 0) {
            return number(10);
        }
        int[] acts = likely[x.look(declaration, 0)];
        return acts[random.nextInt(acts.length)];
    }

    private void same(String call, Checks.Call own, Checks.Call plain) {
        C.due(run + call, Checks.answerOf(plain), Checks.answerOf(own));
    }

    private void call() {
        int choice = random.nextInt(100);
        if (choice < 4) {
            int role = number(3);
            same("person(" + role + ")", () -> x.person(role), () -> model.person(role));
        } else if (choice < 14) {
            int kind = number(3);
            int who = number(x.count(0));
            same("declaration(" + kind + ", " + who + ")", () -> x.declaration(kind, who),
                () -> model.declaration(kind, who));
        } else if (choice < 50) {
            callEvent();
        } else if (choice < 70) {
            int time = time();
            same("tick(" + time + ")", () -> x.tick(time), () -> model.tick(time));
        } else if (choice < 71) {
            int from = number(10);
            int to = 10 + number(15);
            same("hours(" + from + ", " + to + ")", () -> x.hours(from, to) ? 1 : 0, () -> model.hours(from, to));
        } else if (choice < 73) {
            int kind = number(10);
            boolean on = random.nextBoolean();
            same("fails(" + kind + ", " + on + ")", () -> x.fails(kind, on) ? 1 : 0, () -> model.fails(kind, on));
        } else if (choice < 81) {
            int d = declarationNumber();
            int kind = number(8);
            boolean on = random.nextInt(3) == 0;
            same("bar(" + d + ", " + kind + ", " + on + ")", () -> x.bar(d, kind, on), () -> model.bar(d, kind, on));
        } else if (choice < 83) {
            int d = declarationNumber();
            int who = number(x.count(0));
            int reason = number(10);
            same("invalidate(" + d + ", " + who + ", " + reason + ")", () -> x.invalidate(d, who, reason),
                () -> model.invalidate(d, who, reason));
        } else {
            callReader();
        }
    }

    private void callEvent() {
        int d = declarationNumber();
        int kind = likelyAct(d);
        int who = likelyTeller(d, kind);
        int time = time();
        same("event(" + d + ", " + kind + ", " + who + ", " + time + ")", () -> x.event(d, kind, who, time),
            () -> model.event(d, kind, who, time));
    }

    private void callReader() {
        int a = number(20);
        int b = number(9);
        same("look(" + a + ", " + b + ")", () -> x.look(a, b), () -> model.look(a, b));
        same("written(" + a + ", " + b + ")", () -> x.written(a, b), () -> model.written(a, b));
        same("of(" + a + ", " + b + ")", () -> x.of(a, b), () -> model.of(a, b));
        same("count(" + a + ")", () -> x.count(a), () -> model.count(a));
    }

    private void compareAll() {
        for (int a = -1; a <= 120; a++) {
            int first = a;
            for (int b = -1; b <= 9; b++) {
                int second = b;
                same("look(" + a + ", " + b + ")", () -> x.look(first, second), () -> model.look(first, second));
                same("of(" + a + ", " + b + ")", () -> x.of(first, second), () -> model.of(first, second));
                same("written(" + b + ", " + a + ")", () -> x.written(second, first),
                    () -> model.written(second, first));
            }
            same("count(" + a + ")", () -> x.count(first), () -> model.count(first));
        }
    }
}
