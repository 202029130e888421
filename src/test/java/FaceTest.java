import java.lang.reflect.Constructor;
import java.lang.reflect.Field;
import java.lang.reflect.Method;
import java.lang.reflect.Modifier;
import java.util.Set;
import java.util.TreeSet;

/** The public face: every member of the document, and no other that can be seen from outside. */
public final class FaceTest {
    private static final Due due = new Due();

    public static void main(String[] args) {
        theMembersAreTheDocuments();
        theClassIsTheDocuments();
        classesInsideAreHidden();
        privateMethodsHaveNamesOfTheirOwn();
        due.end();
    }

    private static void theMembersAreTheDocuments() {
        due.says("The public face: every constant, constructor and method");
        Set<String> want = new TreeSet<>(Set.of(
                "public static final int TileDesk.NONE",
                "public TileDesk(int,int)",
                "public boolean TileDesk.corner(int,int,int,int,int)",
                "public int TileDesk.add(int,int)",
                "public void TileDesk.clear()",
                "public boolean TileDesk.background(int)",
                "public int TileDesk.begin()",
                "public boolean TileDesk.tile(int)",
                "public int TileDesk.pixel(int,int)",
                "public int TileDesk.nearness(int,int)",
                "public int TileDesk.count(int)"));
        due.is("the face", String.join("\n", seenMembers()) + "\n", String.join("\n", want) + "\n");
        due.is("NONE", TileDesk.NONE, -1);
    }

    private static void theClassIsTheDocuments() {
        due.says("The public face: public final class TileDesk");
        due.is("its modifiers", Modifier.toString(TileDesk.class.getModifiers()), "public final");
        due.is("its package", TileDesk.class.getPackageName(), "");
        due.is("the class above it", TileDesk.class.getSuperclass().getName(), "java.lang.Object");
        due.is("interfaces", TileDesk.class.getInterfaces().length, 0);
    }

    private static void classesInsideAreHidden() {
        due.says("LANGUAGE 1: the classes inside it are private or package-visible and static");
        for (Class<?> inside : TileDesk.class.getDeclaredClasses()) {
            int modifiers = inside.getModifiers();
            due.is(inside + " is seen", Modifier.isPublic(modifiers) || Modifier.isProtected(modifiers), false);
            due.is(inside + " is static", Modifier.isStatic(modifiers), true);
        }
    }

    private static void privateMethodsHaveNamesOfTheirOwn() {
        due.says("LANGUAGE 1: no private method bears the name of a public one");
        Set<String> open = new TreeSet<>();
        for (Method method : TileDesk.class.getMethods()) {
            open.add(method.getName());
        }
        due.is("a public name is known", open.contains("nearness"), true);
        namesApart(TileDesk.class, open);
        for (Class<?> inside : TileDesk.class.getDeclaredClasses()) {
            namesApart(inside, open);
        }
    }

    private static void namesApart(Class<?> type, Set<String> open) {
        for (Method method : type.getDeclaredMethods()) {
            if (!Modifier.isPublic(method.getModifiers())) {
                due.is(method + " has a public one's name", open.contains(method.getName()), false);
            }
        }
    }

    private static Set<String> seenMembers() {
        Set<String> seen = new TreeSet<>();
        for (Field field : TileDesk.class.getDeclaredFields()) {
            if (!Modifier.isPrivate(field.getModifiers())) {
                seen.add(field.toGenericString());
            }
        }
        for (Constructor<?> constructor : TileDesk.class.getDeclaredConstructors()) {
            seen.add(constructor.toGenericString());
        }
        for (Method method : TileDesk.class.getDeclaredMethods()) {
            if (!Modifier.isPrivate(method.getModifiers())) {
                seen.add(method.toGenericString());
            }
        }
        return seen;
    }
}
