import java.lang.reflect.Constructor;
import java.lang.reflect.Field;
import java.lang.reflect.Method;
import java.lang.reflect.Modifier;
import java.util.ArrayList;
import java.util.List;
import java.util.TreeSet;

/** The class has the public face of the document, and nothing else that can be seen from outside. */
public final class FaceTest {

    private static final String[] FACE = {
        "int count(char,int,int) IllegalArgumentException",
        "int make(int,char,int,int) IndexOutOfBoundsException,IllegalArgumentException,NoSuchElementException",
        "int unrank(int,char,int,int) IndexOutOfBoundsException,NumberFormatException,IllegalArgumentException,NoSuchElementException",
        "int draw(int,char,int,int,long) IndexOutOfBoundsException,IllegalArgumentException,NoSuchElementException",
        "int read(int,char,int,int) IndexOutOfBoundsException,IllegalArgumentException",
        "int copy(int,int) IndexOutOfBoundsException,NoSuchElementException",
        "int tell(int) IndexOutOfBoundsException,NoSuchElementException",
        "int rank(int) IndexOutOfBoundsException,NoSuchElementException",
        "boolean next(int) IndexOutOfBoundsException,NoSuchElementException",
        "boolean previous(int) IndexOutOfBoundsException,NoSuchElementException",
        "int skip(int,long) IndexOutOfBoundsException,NoSuchElementException",
        "int compare(int,int) IndexOutOfBoundsException,NoSuchElementException,IllegalArgumentException",
        "char family(int) IndexOutOfBoundsException,NoSuchElementException",
        "int length(int) IndexOutOfBoundsException,NoSuchElementException",
        "int at(int,int) IndexOutOfBoundsException,NoSuchElementException",
        "int undo() NoSuchElementException",
        "int type(char) IllegalArgumentException,IllegalStateException",
        "int erase() ",
        "char signAt(int) IllegalArgumentException",
        "int turn(int) IndexOutOfBoundsException,NoSuchElementException,UnsupportedOperationException",
        "int square(int) IndexOutOfBoundsException,NoSuchElementException,UnsupportedOperationException",
        "int excess(int) IndexOutOfBoundsException,NoSuchElementException,UnsupportedOperationException",
        "int crank(int) IndexOutOfBoundsException,NoSuchElementException,UnsupportedOperationException",
        "int match(int) IndexOutOfBoundsException,NoSuchElementException,UnsupportedOperationException",
        "int often(int,int) IndexOutOfBoundsException,NoSuchElementException",
        "int hook(int,int,int) IndexOutOfBoundsException,NoSuchElementException,UnsupportedOperationException",
        "int fillings(int) IndexOutOfBoundsException,NoSuchElementException,UnsupportedOperationException",
        "boolean isOver(int,int) IndexOutOfBoundsException,NoSuchElementException,UnsupportedOperationException,IllegalArgumentException",
        "int blocks(int) IndexOutOfBoundsException,NoSuchElementException,UnsupportedOperationException",
        "int join(int,int,int) IndexOutOfBoundsException,NoSuchElementException,UnsupportedOperationException,IllegalArgumentException",
        "int meet(int,int,int) IndexOutOfBoundsException,NoSuchElementException,UnsupportedOperationException,IllegalArgumentException",
        "boolean isFiner(int,int) IndexOutOfBoundsException,NoSuchElementException,UnsupportedOperationException,IllegalArgumentException",
        "int door(int) IndexOutOfBoundsException,NoSuchElementException,UnsupportedOperationException",
        "int doorRank(int) IndexOutOfBoundsException,NoSuchElementException,UnsupportedOperationException",
        "int branch(int) IndexOutOfBoundsException,NoSuchElementException,UnsupportedOperationException",
        "int deepest(int) IndexOutOfBoundsException,NoSuchElementException,UnsupportedOperationException",
        "int triangles(int,int) IndexOutOfBoundsException,NoSuchElementException,UnsupportedOperationException,IllegalArgumentException",
        "int degree(int,int) IndexOutOfBoundsException,NoSuchElementException,UnsupportedOperationException,IllegalArgumentException",
        "int far(int,int,int) IndexOutOfBoundsException,NoSuchElementException,UnsupportedOperationException,IllegalArgumentException",
        "int tables(int,int) IndexOutOfBoundsException,NoSuchElementException,IllegalArgumentException",
        "int corner(int,int,int,int) IndexOutOfBoundsException,NoSuchElementException,IllegalArgumentException",
        "boolean isBinary(int,int) IndexOutOfBoundsException,NoSuchElementException,UnsupportedOperationException,IllegalArgumentException",
        "int held() ",
        "long checksum() ",
        "boolean isSound() ",
    };

    private static int passed = 0;
    private static int failed = 0;

    public static void main(String[] args) {
        Class<?> face = PartitionCabinet.class;
        check("public and final", Modifier.isPublic(face.getModifiers()) && Modifier.isFinal(face.getModifiers()));
        check("no package", face.getPackageName().isEmpty());
        check("no class above", face.getSuperclass() == Object.class && face.getInterfaces().length == 0);
        TreeSet<String> names = checkMethods(face);
        checkOthers(face);
        int classes = 1;
        for (Class<?> inside : face.getDeclaredClasses()) {
            classes++;
            check("static inside " + inside, Modifier.isStatic(inside.getModifiers()) || inside.isInterface());
            check("not to be seen " + inside, (inside.getModifiers() & (Modifier.PUBLIC | Modifier.PROTECTED)) == 0);
            for (Method method : inside.getDeclaredMethods()) {
                check("no name of the face for " + method, method.isSynthetic() || !names.contains(method.getName()));
            }
        }
        check("at most twelve classes, not " + classes, classes <= 12);
        System.out.println("FaceTest: " + passed + " passed, " + failed + " failed");
        if (failed > 0) {
            System.exit(1);
        }
    }

    private static void check(String what, boolean holds) {
        if (holds) {
            passed++;
        } else {
            failed++;
            System.out.println("not so: " + what);
        }
    }

    private static TreeSet<String> checkMethods(Class<?> face) {
        TreeSet<String> due = new TreeSet<>(List.of(FACE));
        TreeSet<String> names = new TreeSet<>();
        for (String each : FACE) {
            names.add(each.substring(each.indexOf(' ') + 1, each.indexOf('(')));
        }
        TreeSet<String> seen = new TreeSet<>();
        for (Method method : face.getDeclaredMethods()) {
            if (Modifier.isPrivate(method.getModifiers())) {
                check("no name of the face for " + method, !names.contains(method.getName()));
            } else if (!method.isSynthetic()) {
                check("public, and of the object: " + method, Modifier.isPublic(method.getModifiers()) && !Modifier.isStatic(method.getModifiers()));
                seen.add(told(method));
            }
        }
        check("the methods are those of the face: " + seen, seen.equals(due));
        return names;
    }

    private static String told(Method method) {
        List<String> kinds = new ArrayList<>();
        for (Class<?> kind : method.getParameterTypes()) {
            kinds.add(kind.getName());
        }
        List<String> thrown = new ArrayList<>();
        for (Class<?> kind : method.getExceptionTypes()) {
            thrown.add(kind.getSimpleName());
        }
        return method.getReturnType().getName() + " " + method.getName() + "(" + String.join(",", kinds) + ") " + String.join(",", thrown);
    }

    private static void checkOthers(Class<?> face) {
        Constructor<?>[] makers = face.getDeclaredConstructors();
        check("one constructor", makers.length == 1 && makers[0].getParameterCount() == 0 && Modifier.isPublic(makers[0].getModifiers()));
        for (Field field : face.getDeclaredFields()) {
            check("private " + field, Modifier.isPrivate(field.getModifiers()) || field.isSynthetic());
            check("final " + field, !Modifier.isStatic(field.getModifiers()) || Modifier.isFinal(field.getModifiers()));
        }
    }
}
