import java.io.IOException;
import java.lang.reflect.Field;
import java.lang.reflect.Modifier;
import java.nio.file.Files;
import java.nio.file.Path;
import java.util.Set;
import java.util.TreeSet;
import java.util.regex.Matcher;
import java.util.regex.Pattern;

/**
 * Those rules of LANGUAGE.md that the text of the class shows. It asks for less than they allow: the
 * class needs no exception and no library but Math and System.arraycopy, so any other word is told.
 */
public final class LanguageTest {
    private static final int MOST_LINES = 60;
    private static final int MOST_PARAMETERS = 7;
    private static final Due due = new Due();

    public static void main(String[] args) throws IOException {
        String code = withoutComments(Files.readString(Path.of("src/main/java/TileDesk.java")));
        onePublicClassWithoutAPackage(code);
        onlyWordsThatTheRulesLeave(code);
        onlyTheLibraryThatIsListed(code);
        staticFieldsAreConstants(code);
        methodsAreShort(code);
        due.end();
    }

    private static String withoutComments(String text) {
        return text.replaceAll("(?s)/\\*.*?\\*/", "").replaceAll("//[^\n]*", "");
    }

    private static Set<String> found(String code, String pattern) {
        Set<String> all = new TreeSet<>();
        Matcher matcher = Pattern.compile(pattern).matcher(code);
        while (matcher.find()) {
            all.add(matcher.group());
        }
        return all;
    }

    private static void none(String what, Set<String> there) {
        due.is(what, String.join(" ", there), "");
    }

    private static void onePublicClassWithoutAPackage(String code) {
        due.says("LANGUAGE 1: the class of the document, public and final; no package line");
        none("package or import", found(code, "\\b(package|import)\\b"));
        due.is("public classes", found(code, "public [a-z ]*class \\w+").toString(), "[public final class TileDesk]");
        none("classes inside that are not static", found(code, "(?m)^ +(private |final )*class \\w+"));
    }

    private static void onlyWordsThatTheRulesLeave(String code) {
        due.says("LANGUAGE 2, 6, 12: no lambda, no method reference; this class has no exception either");
        none("words", found(code, "->|::|\\b(try|catch|throw|throws|finally|synchronized|assert|instanceof|var)\\b"));
        due.says("LANGUAGE 3, 12: what is made is counted; this class makes no more than these");
        due.is("new", found(code, "new \\w+").toString(),
                "[new Picture, new Pieces, new Shape, new boolean, new int, new long]");
    }

    private static void onlyTheLibraryThatIsListed(String code) {
        due.says("LANGUAGE 4: the library: only what stands here");
        due.is("library", found(code, "\\b[A-Z][a-z]\\w*\\.\\w+").toString(),
                "[Math.floorDiv, Math.max, Math.min, System.arraycopy]");
        due.is("classes", found(code, "\\b[A-Z]+[a-z]\\w*").toString(),
                "[Math, Picture, Pieces, Shape, System, TileDesk]");
    }

    private static void staticFieldsAreConstants(String code) {
        due.says("LANGUAGE 5: static fields are final, constants; no static initialiser block");
        constantsOf(TileDesk.class);
        for (Class<?> inside : TileDesk.class.getDeclaredClasses()) {
            constantsOf(inside);
        }
        none("static blocks", found(code, "static\\s*\\{"));
    }

    private static void constantsOf(Class<?> type) {
        for (Field field : type.getDeclaredFields()) {
            if (Modifier.isStatic(field.getModifiers())) {
                due.is(field + " is a constant", Modifier.isFinal(field.getModifiers()) && field.getType() == int.class, true);
            }
        }
    }

    /** A method or constructor of the class or of one inside ends with the brace that stands as its head does. */
    private static void methodsAreShort(String code) {
        due.says("LANGUAGE 11: at most seven parameters, some sixty lines");
        Matcher matcher = Pattern.compile("(?ms)^( {4}| {8})(?! )[\\w ,<>\\[\\]]*\\w+\\(([^)]*)\\) \\{\n.*?^\\1\\}").matcher(code);
        int methods = 0;
        while (matcher.find()) {
            methods++;
            String head = matcher.group().strip().split("\n")[0];
            due.is("lines of " + head, matcher.group().lines().count() <= MOST_LINES, true);
            due.is("parameters of " + head, matcher.group(2).split(",").length <= MOST_PARAMETERS, true);
        }
        due.is("methods were found", methods > 10, true);
    }
}
