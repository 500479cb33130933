import java.lang.reflect.Constructor;
import java.lang.reflect.Field;
import java.lang.reflect.Method;
import java.lang.reflect.Modifier;
import java.util.Set;
import java.util.TreeSet;

/** The document's public face, and LANGUAGE.md's rule 1: nothing else can be seen. */
final class FaceTest {
    private static final Set<String> FACE = Set.of(
            "int coil(int,int,int,int)", "int table(int,int,int,int)", "int group(int,int,int)",
            "void urgent(int,int)", "void old(int,int)", "void rules(int,int,int,int)", "int run(int)",
            "boolean proved()", "int order(int)", "int told(int)", "boolean change(int)", "int jump(int,int)",
            "int bound()", "void tell(long)", "int improve(int)");

    public static void main(String[] args) {
        Class<?> face = WidthCampaigns.class;
        Check.due("public and final", face.getModifiers(), Modifier.PUBLIC | Modifier.FINAL);
        Set<String> seen = new TreeSet<>();
        for (Method method : face.getDeclaredMethods()) {
            if (!Modifier.isPrivate(method.getModifiers()) && !method.isSynthetic()) {
                seen.add(signature(method));
            }
        }
        Check.due("the methods are the face's: " + seen, seen.equals(FACE), true);
        for (Field field : face.getDeclaredFields()) {
            Check.due("private field " + field.getName(), Modifier.isPrivate(field.getModifiers()), true);
        }
        Constructor<?>[] makers = face.getDeclaredConstructors();
        Check.due("one constructor", makers.length, 1);
        Check.due("public, without parameters",
                Modifier.isPublic(makers[0].getModifiers()) && makers[0].getParameterCount() == 0, true);
        Check.finish("FaceTest");
    }

    private static String signature(Method method) {
        StringBuilder text = new StringBuilder(method.getReturnType() + " " + method.getName() + "(");
        for (Class<?> each : method.getParameterTypes()) {
            text.append(each).append(',');
        }
        if (text.charAt(text.length() - 1) == ',') {
            text.setLength(text.length() - 1);
        }
        return text.append(')').toString();
    }
}
