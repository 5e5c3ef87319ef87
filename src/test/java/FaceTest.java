import java.lang.reflect.Constructor;
import java.lang.reflect.Executable;
import java.lang.reflect.Field;
import java.lang.reflect.Method;
import java.lang.reflect.Modifier;
import java.nio.file.Files;
import java.nio.file.Path;
import java.util.ArrayList;
import java.util.Arrays;
import java.util.HashSet;
import java.util.List;
import java.util.Set;
import java.util.TreeSet;

/** The face: exactly the members that the document lists, and no other that is not private. */
public final class FaceTest {
    public static void main(String[] args) throws Exception {
        Check.due("members", members(), documented());
        Check.due("public and final", ColumnTable.class.getModifiers(), Modifier.PUBLIC | Modifier.FINAL);
        Set<String> publicNames = new HashSet<>();
        for (Method method : ColumnTable.class.getDeclaredMethods()) {
            if (Modifier.isPublic(method.getModifiers())) {
                publicNames.add(method.getName());
            }
        }
        for (Method method : ColumnTable.class.getDeclaredMethods()) {
            int modifiers = method.getModifiers();
            boolean isFine = Modifier.isPublic(modifiers)
                    || Modifier.isPrivate(modifiers) && !publicNames.contains(method.getName());
            Check.due(method.toString(), isFine, true);
        }
        for (Field field : ColumnTable.class.getDeclaredFields()) {
            Check.due(field.toString(), Modifier.isPrivate(field.getModifiers()), true);
        }
        for (Class<?> inner : ColumnTable.class.getDeclaredClasses()) {
            Check.due(inner.toString(), inner.getModifiers() & (Modifier.PUBLIC | Modifier.PROTECTED | Modifier.STATIC),
                    Modifier.STATIC);
            for (Method method : inner.getDeclaredMethods()) {
                Check.due(method.toString(), publicNames.contains(method.getName()), false);
            }
        }
        Check.end();
    }

    private static Set<String> members() {
        List<Executable> found = new ArrayList<>();
        found.addAll(Arrays.asList(ColumnTable.class.getConstructors()));
        for (Method method : ColumnTable.class.getDeclaredMethods()) {
            if (Modifier.isPublic(method.getModifiers())) {
                found.add(method);
            }
        }
        Set<String> result = new TreeSet<>();
        for (Executable member : found) {
            String kind = member instanceof Constructor ? "" : ((Method) member).getReturnType() + " ";
            result.add(kind + member.getName() + names(member.getParameterTypes()) + names(member.getExceptionTypes()));
        }
        return result;
    }

    private static String names(Class<?>[] types) {
        List<String> result = new ArrayList<>();
        for (Class<?> type : types) {
            result.add(type.getSimpleName());
        }
        return result.toString();
    }

    /** The code block of the document, in the same form: "int type[int][IndexOutOfBoundsException]". */
    private static Set<String> documented() throws Exception {
        Set<String> result = new TreeSet<>();
        for (String line : Files.readAllLines(Path.of("../shared/DOC.md"))) {
            if (line.startsWith("    public ")) {
                String[] parts = line.trim().substring("public ".length()).split("[();]| throws ", -1);
                List<String> lists = new ArrayList<>();
                for (int i = 1; i < parts.length; i++) {
                    if (i == 1 || !parts[i].isBlank()) {
                        lists.add(list(parts[i]));
                    }
                }
                result.add(parts[0] + lists.get(0) + (lists.size() > 1 ? lists.get(1) : "[]"));
            }
        }
        return result;
    }

    private static String list(String text) {
        List<String> result = new ArrayList<>();
        for (String part : text.split(",")) {
            if (!part.isBlank()) {
                result.add(part.trim().split(" ")[0].replace("java.util.", ""));
            }
        }
        return result.toString();
    }
}
