import java.lang.reflect.Constructor;
import java.lang.reflect.Field;
import java.lang.reflect.Method;
import java.lang.reflect.Modifier;
import java.util.Set;
import java.util.TreeSet;

/** The document's public face, and LANGUAGE.md's rule 1: nothing else can be seen. */
final class FaceTest {
    private static final String INDEX = "IndexOutOfBoundsException";
    private static final String TURN = "IllegalStateException";
    private static final String RANGE = "IllegalArgumentException";
    private static final String MEANING = "UnsupportedOperationException";

    private static final Set<String> FACE = Set.of(
            "int coil(int,int,int,int) " + RANGE + " " + MEANING,
            "int table(int,int,int,int) " + INDEX + " " + RANGE + " " + MEANING,
            "int group(int,int,int) " + RANGE + " " + MEANING,
            "void urgent(int,int) " + INDEX + " " + RANGE,
            "void old(int,int) " + INDEX + " " + RANGE,
            "void rules(int,int,int,int) " + RANGE,
            "int run(int) " + RANGE,
            "boolean proved() " + TURN,
            "int order(int) " + INDEX + " " + TURN,
            "int told(int) " + INDEX + " " + TURN,
            "boolean change(int) " + INDEX + " " + TURN,
            "int jump(int,int) " + INDEX,
            "int bound()",
            "void tell(long) " + INDEX + " " + MEANING,
            "int improve(int) " + TURN + " " + RANGE);

    public static void main(String[] args) {
        Class<?> face = WidthCampaigns.class;
        Check.due("public and final", face.getModifiers(), Modifier.PUBLIC | Modifier.FINAL);
        Check.due("without a package", face.getPackageName().isEmpty(), true);
        methodsAreTheFaces(face);
        fieldsArePrivate(face);
        oneConstructor(face);
        classesInsideAreStatic(face);
        privateNamesAreOthers(face);
        Check.finish("FaceTest");
    }

    private static void methodsAreTheFaces(Class<?> face) {
        Set<String> seen = new TreeSet<>();
        for (Method method : face.getDeclaredMethods()) {
            if (!Modifier.isPrivate(method.getModifiers()) && !method.isSynthetic()) {
                seen.add(signature(method));
                Check.due(method + " is public and no more", method.getModifiers(), Modifier.PUBLIC);
            }
        }
        Check.due("the methods are the face's: " + seen, seen.equals(FACE), true);
    }

    private static void fieldsArePrivate(Class<?> face) {
        for (Field field : face.getDeclaredFields()) {
            int how = field.getModifiers();
            Check.due("private field " + field.getName(), Modifier.isPrivate(how), true);
            Check.due("static only if final: " + field.getName(), !Modifier.isStatic(how) || Modifier.isFinal(how), true);
        }
    }

    private static void oneConstructor(Class<?> face) {
        Constructor<?>[] makers = face.getDeclaredConstructors();
        Check.due("one constructor", makers.length, 1);
        Check.due("public, without parameters",
                Modifier.isPublic(makers[0].getModifiers()) && makers[0].getParameterCount() == 0, true);
    }

    private static void classesInsideAreStatic(Class<?> face) {
        for (Class<?> inside : face.getDeclaredClasses()) {
            int how = inside.getModifiers();
            Check.due("static " + inside.getName(), Modifier.isStatic(how), true);
            Check.due("hidden " + inside.getName(), Modifier.isPublic(how) || Modifier.isProtected(how), false);
        }
    }

    /** No private method, of the class or of one inside it, bears the name of a public one. */
    private static void privateNamesAreOthers(Class<?> face) {
        Set<String> names = new TreeSet<>();
        for (String each : FACE) {
            names.add(each.substring(each.indexOf(' ') + 1, each.indexOf('(')));
        }
        notNamedSo(names, face);
        for (Class<?> inside : face.getDeclaredClasses()) {
            notNamedSo(names, inside);
        }
    }

    private static void notNamedSo(Set<String> names, Class<?> holder) {
        for (Method method : holder.getDeclaredMethods()) {
            boolean isHidden = Modifier.isPrivate(method.getModifiers());
            Check.due("a name of its own: " + method, isHidden && names.contains(method.getName()), false);
        }
    }

    private static String signature(Method method) {
        StringBuilder text = new StringBuilder(method.getReturnType() + " " + method.getName() + "(");
        for (Class<?> each : method.getParameterTypes()) {
            text.append(each).append(',');
        }
        if (text.charAt(text.length() - 1) == ',') {
            text.setLength(text.length() - 1);
        }
        text.append(')');
        for (Class<?> each : method.getExceptionTypes()) {
            text.append(' ').append(each.getSimpleName());
        }
        return text.toString();
    }
}
