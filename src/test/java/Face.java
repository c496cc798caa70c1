import java.io.IOException;
import java.lang.reflect.Constructor;
import java.lang.reflect.Field;
import java.lang.reflect.Method;
import java.lang.reflect.Modifier;
import java.nio.file.Files;
import java.nio.file.Path;
import java.util.Set;
import java.util.TreeSet;

/** The public face is that of the document (its path is the argument), and nothing else is open. */
final class Face {
    private Face() {
    }

    /** The lines between "public final class Cubequarry {" and "}", without the arguments' names. */
    private static Set<String> told(Path document) throws IOException {
        String text = Files.readString(document);
        int start = text.indexOf("public final class Cubequarry {");
        String face = text.substring(text.indexOf('\n', start), text.indexOf("\n}", start));
        Set<String> told = new TreeSet<>();
        for (String line : face.split(";")) {
            if (!line.isBlank()) {
                told.add(line.strip().replaceAll("(int|boolean) \\w+(?=[,)])", "$1").replace(", ", ","));
            }
        }
        return told;
    }

    private static Set<String> found() {
        Set<String> found = new TreeSet<>();
        for (Constructor<?> made : Cubequarry.class.getConstructors()) {
            found.add(made.toGenericString());
        }
        for (Method method : Cubequarry.class.getDeclaredMethods()) {
            if (Modifier.isPublic(method.getModifiers())) {
                found.add(method.toGenericString().replace("java.lang.", "").replace("Cubequarry.", ""));
            }
        }
        return found;
    }

    private static void othersAreHidden() {
        Set<String> names = new TreeSet<>();
        for (Method method : Cubequarry.class.getDeclaredMethods()) {
            if (Modifier.isPublic(method.getModifiers())) {
                names.add(method.getName());
            }
        }
        for (Method method : Cubequarry.class.getDeclaredMethods()) {
            int how = method.getModifiers();
            Check.is(method + " is public or private", Modifier.isPublic(how) || Modifier.isPrivate(how), true);
            Check.is(method + " is private by a public name",
                    Modifier.isPrivate(how) && names.contains(method.getName()), false);
        }
        for (Field field : Cubequarry.class.getDeclaredFields()) {
            int how = field.getModifiers();
            Check.is(field + " is private", Modifier.isPrivate(how), true);
            Check.is(field + " is static and not final", Modifier.isStatic(how) && !Modifier.isFinal(how), false);
        }
    }

    public static void main(String[] args) throws IOException {
        Check.place("the face");
        Check.is("all members", found().toString(), told(Path.of(args[0])).toString());
        othersAreHidden();
        Check.done("Face");
    }
}
