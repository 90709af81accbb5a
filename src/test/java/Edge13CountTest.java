/** Promise 13: "from 10 on declarations in state what - 10. NONE for another what or state." */
public final class Edge13CountTest {
    private static final Checks C = new Checks();

    public static void main(String[] args) {
        otherWhats();
        noneToFull();
        states();
        C.end();
    }

    private static void otherWhats() {
        int[] none = {Integer.MIN_VALUE, Integer.MIN_VALUE + 9, Integer.MIN_VALUE + 10, -10, -1, 5, 6, 7, 8, 9,
            18, 19, 42, Integer.MAX_VALUE};
        for (Scene scene : new Scene[] {Scenes.newObject(C), Scenes.declarations(C, 20)}) {
            for (int what : none) {
                scene.keeps("count(" + what + ")", -1, x -> x.count(what));
            }
            for (int what : new int[] {0, 1, 2, 3, 4, 10, 11, 12, 13, 14, 15, 16, 17}) {
                int due = what == 0 ? scene.make().count(0) : what == 1 || what == 10 ? scene.make().count(1) : 0;
                scene.keeps("count(" + what + ")", due, x -> x.count(what));
            }
        }
    }

    private static void noneToFull() {
        for (int many = 0; many <= 12; many++) {
            Scenes.people(C, many).keeps("count(0)", many, x -> x.count(0));
        }
        for (int many = 0; many <= 20; many++) {
            Scenes.declarations(C, many).keeps("count(1)", many, x -> x.count(1));
            Scenes.declarations(C, many).keeps("count(10)", many, x -> x.count(10));
            Scenes.events(C, many, many).keeps("count(3)", many, x -> x.count(3));
        }
        for (int many : new int[] {0, 1, 20, 21, 119, 120}) {
            Scenes.events(C, many, 0).keeps("count(2)", many, x -> x.count(2));
            Scenes.events(C, many, 0).keeps("count(3)", 0, x -> x.count(3));
        }
        for (int now : new int[] {0, 1, 99999, 100000}) {
            Scenes.newObject(C).then("NOW " + now, x -> x.tick(now)).keeps("count(4)", now, x -> x.count(4));
        }
    }

    private static void states() {
        for (int kind = 0; kind <= 2; kind++) {
            for (int state = 0; state < 8; state++) {
                if (Desk.reaches(kind, state)) {
                    oneInState(Scenes.inState(C, kind, state), state);
                }
            }
        }
        Scene gone = Scenes.declarations(C, 20).then("all invalidated", x -> {
            for (int d = 0; d < 20; d++) {
                x.invalidate(d, Desk.OFFICER, 0);
            }
        });
        gone.keeps("count(10)", 0, x -> x.count(10));
        gone.keeps("count(16)", 20, x -> x.count(16));
        gone.keeps("count(1)", 20, x -> x.count(1));
    }

    private static void oneInState(Scene scene, int state) {
        for (int other = 0; other < 8; other++) {
            int what = 10 + other;
            scene.keeps("count(" + what + ")", other == state ? 1 : 0, x -> x.count(what));
        }
    }
}
