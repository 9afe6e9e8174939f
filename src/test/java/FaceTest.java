import java.io.IOException;
import java.lang.reflect.Constructor;
import java.lang.reflect.Executable;
import java.lang.reflect.Field;
import java.lang.reflect.Method;
import java.lang.reflect.Modifier;
import java.nio.file.Files;
import java.nio.file.Path;
import java.util.HashSet;
import java.util.Set;
import java.util.StringJoiner;
import java.util.TreeSet;

/** The face of the class is that of the document, and no other member can be seen. */
final class FaceTest {
    public static void main(String[] args) throws IOException {
        Check check = new Check();
        check.same("NONE", StormBasin.NONE, -1);
        check.same("final", Modifier.isFinal(StormBasin.class.getModifiers()), true);
        check.same("face", seen(), due(Path.of("../shared/DOC.md")));
        check.same("private names", privateNamesOfPublicOnes(), Set.of());
        check.end();
    }

    private static Set<String> due(Path document) throws IOException {
        Set<String> face = new TreeSet<>();
        boolean isInFace = false;
        for (String row : Files.readAllLines(document)) {
            if (row.startsWith("public final class StormBasin")) {
                isInFace = true;
            } else if (row.equals("}")) {
                isInFace = false;
            } else if (isInFace) {
                face.add(row.strip().replaceAll("\\b(int|boolean) \\w+([,)])", "$1$2").replace(" = -1;", "").replace(";", ""));
            }
        }
        return face;
    }

    private static Set<String> seen() {
        Set<String> face = new TreeSet<>();
        for (Field field : StormBasin.class.getDeclaredFields()) {
            if (!Modifier.isPrivate(field.getModifiers())) {
                face.add(Modifier.toString(field.getModifiers()) + " " + field.getType() + " " + field.getName());
            }
        }
        for (Constructor<?> constructor : StormBasin.class.getDeclaredConstructors()) {
            face.add(signature(constructor, "StormBasin"));
        }
        for (Method method : StormBasin.class.getDeclaredMethods()) {
            if (!Modifier.isPrivate(method.getModifiers())) {
                face.add(signature(method, method.getReturnType() + " " + method.getName()));
            }
        }
        return face;
    }

    private static String signature(Executable member, String name) {
        StringJoiner types = new StringJoiner(", ", "(", ")");
        for (Class<?> type : member.getParameterTypes()) {
            types.add(type.getSimpleName());
        }
        StringJoiner thrown = new StringJoiner(", ", " throws ", "").setEmptyValue("");
        for (Class<?> type : member.getExceptionTypes()) {
            thrown.add(type.getSimpleName());
        }
        return Modifier.toString(member.getModifiers()) + " " + name + types + thrown;
    }

    private static Set<String> privateNamesOfPublicOnes() {
        Set<String> open = new HashSet<>();
        Set<String> closed = new HashSet<>();
        for (Method method : StormBasin.class.getDeclaredMethods()) {
            (Modifier.isPrivate(method.getModifiers()) ? closed : open).add(method.getName());
        }
        closed.retainAll(open);
        return closed;
    }
}
