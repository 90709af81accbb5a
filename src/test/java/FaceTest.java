import java.lang.reflect.Constructor;
import java.lang.reflect.Field;
import java.lang.reflect.Method;
import java.lang.reflect.Modifier;
import java.util.Arrays;
import java.util.TreeSet;

/** The class has the document's face and nothing else that others could see. */
public final class FaceTest {
    private static final String[] FACE = {
        "public DeclareStates()",
        "public static final int DeclareStates.NONE",
        "public int DeclareStates.person(int) IllegalArgumentException IllegalStateException",
        "public int DeclareStates.declaration(int,int) IllegalArgumentException IllegalStateException",
        "public int DeclareStates.event(int,int,int,int) IllegalArgumentException IllegalStateException",
        "public int DeclareStates.tick(int) IllegalArgumentException",
        "public boolean DeclareStates.hours(int,int)",
        "public boolean DeclareStates.fails(int,boolean)",
        "public int DeclareStates.bar(int,int,boolean) IllegalArgumentException",
        "public int DeclareStates.invalidate(int,int,int) IllegalArgumentException",
        "public int DeclareStates.look(int,int) IndexOutOfBoundsException",
        "public int DeclareStates.written(int,int) IllegalArgumentException",
        "public int DeclareStates.of(int,int) IndexOutOfBoundsException",
        "public int DeclareStates.count(int)",
    };

    public static void main(String[] args) {
        TreeSet<String> want = new TreeSet<>(Arrays.asList(FACE));
        TreeSet<String> seen = new TreeSet<>();
        Class<?> face = DeclareStates.class;
        for (Constructor<?> one : face.getDeclaredConstructors()) {
            if (!Modifier.isPrivate(one.getModifiers())) {
                seen.add(plain(one.toGenericString()));
            }
        }
        for (Field one : face.getDeclaredFields()) {
            if (!Modifier.isPrivate(one.getModifiers())) {
                seen.add(plain(one.toGenericString()));
            }
        }
        for (Method one : face.getDeclaredMethods()) {
            if (!Modifier.isPrivate(one.getModifiers())) {
                seen.add(plain(one.toGenericString()));
            }
        }
        Checks c = new Checks();
        c.due("public final, saw " + face.getModifiers(), true,
            face.getModifiers() == (Modifier.PUBLIC | Modifier.FINAL));
        c.due("the face, saw " + seen, true, seen.equals(want));
        c.end();
    }

    private static String plain(String text) {
        return text.replace("java.lang.", "").replace(" throws ", " ").replace("Exception,", "Exception ");
    }
}
