/** The scenes that several tests begin with. */
final class Scenes {
    private Scenes() {
    }

    static Scene newObject(Checks c) {
        return new Scene(c, "a new object", DeclareStates::new);
    }

    /** People of all roles by turns: 0 a trader, 1 an officer, 2 the port, 3 a trader, .. */
    static Scene people(Checks c, int many) {
        return new Scene(c, many + " people", () -> {
            DeclareStates x = new DeclareStates();
            for (int i = 0; i < many; i++) {
                x.person(i % 3);
            }
            return x;
        });
    }

    /** The desk's five people, and declarations of its owner: 0 an import, 1 an export, 2 a transit, 3 an import, .. */
    static Scene declarations(Checks c, int many) {
        return new Scene(c, many + " declarations", () -> {
            DeclareStates x = new Desk().x;
            for (int i = 0; i < many; i++) {
                x.declaration(i % 3, Desk.OWNER);
            }
            return x;
        });
    }

    /** One declaration, for which events were told and settled until so many are told in all; the last of them wait. */
    static Scene events(Checks c, int told, int waiting) {
        return declarations(c, 1).then(told + " events, " + waiting + " wait", x -> {
            for (int i = 1; i <= told; i++) {
                x.event(0, Desk.MEND, Desk.OWNER, i);
                if (i % 20 == 0 && i < told - waiting || i == told - waiting) {
                    x.tick(i);
                }
            }
        });
    }

    /** One declaration of a kind in a state. */
    static Scene inState(Checks c, int kind, int state) {
        return new Scene(c, "kind " + kind + " in state " + state, () -> {
            Desk desk = new Desk();
            desk.inState(kind, state);
            return desk.x;
        });
    }

    /** One declaration of a kind in ACCEPTED or UNDER CHECK with exactly these marks, held by bar 0. */
    static Scene held(Checks c, int kind, int state, int marks) {
        return new Scene(c, "kind " + kind + " in state " + state + " with marks " + marks + " and a bar", () -> {
            Desk desk = new Desk();
            desk.held(kind, state, marks);
            return desk.x;
        });
    }
}
