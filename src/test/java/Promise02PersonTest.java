public final class Promise02PersonTest {
    public static void main(String[] args) {
        Checks c = new Checks();
        DeclareStates x = new DeclareStates();
        c.badArgument("person(-1)", () -> x.person(-1));
        c.badArgument("person(3)", () -> x.person(3));
        c.badArgument("person(MAX)", () -> x.person(Integer.MAX_VALUE));
        c.due("people behind wrong roles", 0, x.count(0));
        for (int i = 0; i < 12; i++) {
            c.due("person " + i, i, x.person(i % 3));
        }
        c.badState("the 13th person", () -> x.person(0));
        c.badArgument("a wrong role when there are 12", () -> x.person(3));
        c.due("people", 12, x.count(0));
        for (int i = 0; i < 12; i++) {
            checkIsTraderOnlyOfRoleZero(c, x, i);
        }
        c.end();
    }

    private static void checkIsTraderOnlyOfRoleZero(Checks c, DeclareStates x, int who) {
        if (who % 3 == 0) {
            c.due("declaration of trader " + who, who / 3, x.declaration(0, who));
        } else {
            c.badArgument("declaration of " + who, () -> x.declaration(0, who));
        }
    }
}
