/** Promise 2, and of the terms: "PEOPLE 0, 1, .. (12 at most) have a ROLE: 0 trader, 1 officer, 2 port." */
public final class Edge02PersonTest {
    private static final Checks C = new Checks();
    private static final int[] NO_ROLES = {Integer.MIN_VALUE, -1, 3, Integer.MAX_VALUE};

    public static void main(String[] args) {
        roles();
        numbersRise();
        twelveAtMost();
        wrongRoleIsToldFirst();
        C.end();
    }

    // "IllegalArgumentException if there is no such role"
    private static void roles() {
        Scene few = Scenes.people(C, 3);
        for (int role = 0; role <= 2; role++) {
            int good = role;
            few.taken("person(" + role + ")", 3, x -> x.person(good));
        }
        for (int role : NO_ROLES) {
            few.badArgument("person(" + role + ")", x -> x.person(role));
        }
    }

    private static void numbersRise() {
        for (int many = 0; many < 12; many++) {
            DeclareStates x = Scenes.people(C, many).taken("one more", many, y -> y.person(2));
            C.due("people behind " + many, many + 1, x.count(0));
        }
        Scenes.newObject(C).then("a wrong role", x -> Checks.answerOf(() -> x.person(3)))
            .taken("no number is used up", 0, x -> x.person(0));
    }

    // "IllegalStateException if there are 12."
    private static void twelveAtMost() {
        for (int role = 0; role <= 2; role++) {
            int good = role;
            Scenes.people(C, 11).taken("the 12th", 11, x -> x.person(good));
            Scenes.people(C, 12).badState("a 13th", x -> x.person(good));
        }
    }

    // "Of several exceptions the one told first is thrown."
    private static void wrongRoleIsToldFirst() {
        for (int role : NO_ROLES) {
            Scenes.people(C, 12).badArgument("a 13th in role " + role, x -> x.person(role));
        }
    }
}
