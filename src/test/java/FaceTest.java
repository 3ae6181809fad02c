import java.lang.reflect.Field;
import java.lang.reflect.Method;
import java.lang.reflect.Modifier;
import java.util.Set;
import java.util.TreeSet;

/** The public face, and nothing beside it. */
public final class FaceTest {
    private static final Set<String> FACE = Set.of(
            "int header(int,int,int,boolean)", "int request(boolean)", "int respond(int,boolean)",
            "int write(int,int,long,int,boolean)", "int pump(int,int)", "long read(int,int,int)",
            "boolean reset(int,int,int)", "boolean setting(int,int,int)", "int deliver(int)",
            "boolean inject(int,int,int,int,boolean)", "int frame(int,int,int)", "int state(int,int)",
            "int window(int,int,boolean)", "int bytes(int,int,boolean)", "int field(int,int,int,boolean)",
            "int table(int,boolean,int)", "int down(int)");

    public static void main(String[] args) {
        Due due = new Due();
        Class<?> face = InterleavedLink.class;
        due.yes("public and final", Modifier.isPublic(face.getModifiers()) && Modifier.isFinal(face.getModifiers()));
        due.is("constructors", face.getDeclaredConstructors().length, 1);
        due.is("public constructors", face.getConstructors().length, 1);
        Set<String> found = new TreeSet<>();
        for (Method method : face.getDeclaredMethods()) {
            if (!Modifier.isPrivate(method.getModifiers()) && !method.isSynthetic()) {
                found.add(textOf(method));
                due.yes(textOf(method) + " is public", Modifier.isPublic(method.getModifiers()));
            }
        }
        due.yes("the methods are " + found, found.equals(FACE));
        for (Field field : face.getDeclaredFields()) {
            boolean isFace = field.getName().equals("NONE") || field.getName().equals("FULL");
            due.is(field.getName() + " is private", Modifier.isPrivate(field.getModifiers()) ? 1 : 0, isFace ? 0 : 1);
        }
        due.is("NONE", InterleavedLink.NONE, -1);
        due.is("FULL", InterleavedLink.FULL, -2);
        due.finish();
    }

    private static String textOf(Method method) {
        StringBuilder text = new StringBuilder(method.getReturnType() + " " + method.getName() + "(");
        for (Class<?> type : method.getParameterTypes()) {
            text.append(text.charAt(text.length() - 1) == '(' ? "" : ",").append(type);
        }
        return text.append(')').toString();
    }
}
