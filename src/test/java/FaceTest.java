import java.io.IOException;
import java.lang.reflect.Constructor;
import java.lang.reflect.Field;
import java.lang.reflect.Method;
import java.lang.reflect.Modifier;
import java.nio.file.Files;
import java.nio.file.Path;
import java.util.ArrayList;
import java.util.List;
import java.util.TreeSet;
import java.util.regex.Matcher;
import java.util.regex.Pattern;

/** The class has the public face of the document, and nothing else that can be seen from outside. */
public final class FaceTest {

    private static final Path DOCUMENT = Path.of("../shared/DOC.md");
    private static final Path SOURCE = Path.of("src/main/java/PartitionCabinet.java");
    private static final int MEMBERS = 46;

    private static int passed = 0;
    private static int failed = 0;

    public static void main(String[] args) throws IOException {
        Class<?> face = PartitionCabinet.class;
        List<String> members = membersOfFace();
        checkSource(members);
        check("public and final", Modifier.isPublic(face.getModifiers()) && Modifier.isFinal(face.getModifiers()));
        check("no package", face.getPackageName().isEmpty());
        check("no class above", face.getSuperclass() == Object.class && face.getInterfaces().length == 0);
        TreeSet<String> names = checkMethods(face, members);
        checkOthers(face);
        int classes = 1;
        for (Class<?> inside : face.getDeclaredClasses()) {
            classes++;
            check("static inside " + inside, Modifier.isStatic(inside.getModifiers()) || inside.isInterface());
            check("not to be seen " + inside, (inside.getModifiers() & (Modifier.PUBLIC | Modifier.PROTECTED)) == 0);
            for (Method method : inside.getDeclaredMethods()) {
                check("no name of the face for " + method, method.isSynthetic() || !names.contains(method.getName()));
            }
        }
        check("at most twelve classes, not " + classes, classes <= 12);
        System.out.println("FaceTest: " + passed + " passed, " + failed + " failed");
        if (failed > 0) {
            System.exit(1);
        }
    }

    private static void check(String what, boolean holds) {
        if (holds) {
            passed++;
        } else {
            failed++;
            System.out.println("not so: " + what);
        }
    }

    /** What stands between "public" and the end in each line of the document's face. */
    private static List<String> membersOfFace() throws IOException {
        List<String> members = new ArrayList<>();
        boolean isFace = false;
        for (String line : Files.readAllLines(DOCUMENT)) {
            String bare = line.strip();
            isFace = isFace ? !bare.equals("```") : bare.equals("```java");
            if (isFace && bare.startsWith("public ") && bare.endsWith(";")) {
                members.add(bare.substring("public ".length(), bare.length() - 1));
            }
        }
        check("the document's face has " + MEMBERS + " members, not " + members.size(), members.size() == MEMBERS);
        return members;
    }

    /** Each member stands in the source word for word, with the names of its parameters. */
    private static void checkSource(List<String> members) throws IOException {
        String code = Files.readString(SOURCE).replaceAll("\\s+", " ");
        for (String member : members) {
            check("in the source: " + member, code.contains("public " + member + " {"));
        }
    }

    /** A method of the document's face as told() tells it; a constructor is none. */
    private static String dueOf(String member) {
        Matcher parts = Pattern.compile("(\\w+) (\\w+)\\(([^)]*)\\)(?: throws (.*))?").matcher(member);
        if (!parts.matches()) {
            return "";
        }
        String kinds = parts.group(3).replaceAll("(\\w+) \\w+", "$1").replace(", ", ",");
        String thrown = parts.group(4) == null ? "" : parts.group(4).replace(", ", ",");
        return parts.group(1) + " " + parts.group(2) + "(" + kinds + ") " + thrown;
    }

    private static TreeSet<String> checkMethods(Class<?> face, List<String> members) {
        TreeSet<String> due = new TreeSet<>();
        TreeSet<String> names = new TreeSet<>();
        for (String member : members) {
            String each = dueOf(member);
            if (!each.isEmpty()) {
                due.add(each);
                names.add(each.substring(each.indexOf(' ') + 1, each.indexOf('(')));
            }
        }
        TreeSet<String> seen = new TreeSet<>();
        for (Method method : face.getDeclaredMethods()) {
            if (Modifier.isPrivate(method.getModifiers())) {
                check("no name of the face for " + method, !names.contains(method.getName()));
            } else if (!method.isSynthetic()) {
                check("public, and of the object: " + method, Modifier.isPublic(method.getModifiers()) && !Modifier.isStatic(method.getModifiers()));
                seen.add(told(method));
            }
        }
        check("the methods are those of the face: " + seen, seen.equals(due));
        return names;
    }

    private static String told(Method method) {
        List<String> kinds = new ArrayList<>();
        for (Class<?> kind : method.getParameterTypes()) {
            kinds.add(kind.getName());
        }
        List<String> thrown = new ArrayList<>();
        for (Class<?> kind : method.getExceptionTypes()) {
            thrown.add(kind.getSimpleName());
        }
        return method.getReturnType().getName() + " " + method.getName() + "(" + String.join(",", kinds) + ") " + String.join(",", thrown);
    }

    private static void checkOthers(Class<?> face) {
        Constructor<?>[] makers = face.getDeclaredConstructors();
        check("one constructor", makers.length == 1 && makers[0].getParameterCount() == 0 && Modifier.isPublic(makers[0].getModifiers()));
        for (Field field : face.getDeclaredFields()) {
            check("private " + field, Modifier.isPrivate(field.getModifiers()) || field.isSynthetic());
            check("final " + field, !Modifier.isStatic(field.getModifiers()) || Modifier.isFinal(field.getModifiers()));
        }
    }
}
