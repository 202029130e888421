import java.lang.reflect.Constructor;
import java.lang.reflect.Field;
import java.lang.reflect.Method;
import java.lang.reflect.Modifier;
import java.util.Set;
import java.util.TreeSet;

/** The public face: every member of the document, and no other that can be seen from outside. */
public final class FaceTest {
    private static final Due due = new Due();

    public static void main(String[] args) {
        Set<String> want = new TreeSet<>(Set.of(
                "public static final int TileDesk.NONE",
                "public TileDesk(int,int)",
                "public boolean TileDesk.corner(int,int,int,int,int)",
                "public int TileDesk.add(int,int)",
                "public void TileDesk.clear()",
                "public boolean TileDesk.background(int)",
                "public int TileDesk.begin()",
                "public boolean TileDesk.tile(int)",
                "public int TileDesk.pixel(int,int)",
                "public int TileDesk.nearness(int,int)",
                "public int TileDesk.count(int)"));
        due.is("the face", String.join("\n", seenMembers()) + "\n", String.join("\n", want) + "\n");
        due.is("the class is final", Modifier.isFinal(TileDesk.class.getModifiers()), true);
        due.is("NONE", TileDesk.NONE, -1);
        due.end();
    }

    private static Set<String> seenMembers() {
        Set<String> seen = new TreeSet<>();
        for (Field field : TileDesk.class.getDeclaredFields()) {
            if (!Modifier.isPrivate(field.getModifiers())) {
                seen.add(field.toGenericString());
            }
        }
        for (Constructor<?> constructor : TileDesk.class.getDeclaredConstructors()) {
            seen.add(constructor.toGenericString());
        }
        for (Method method : TileDesk.class.getDeclaredMethods()) {
            if (!Modifier.isPrivate(method.getModifiers())) {
                seen.add(method.toGenericString());
            }
        }
        return seen;
    }
}
