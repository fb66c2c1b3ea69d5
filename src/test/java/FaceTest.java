import java.lang.reflect.Constructor;
import java.lang.reflect.Field;
import java.lang.reflect.Method;
import java.lang.reflect.Modifier;
import java.util.Arrays;
import java.util.Set;
import java.util.TreeSet;
import java.util.stream.Collectors;

/** The public face is the document's and no more (rules 1, 2, 5 and 11 of LANGUAGE.md). */
public final class FaceTest {
    private static final Set<String> FACE = new TreeSet<>(Set.of(
        "boolean posts(int)", "int lane(int,int,int,int,int)", "boolean room(int,int)",
        "boolean share(int,int,int,int)", "int tell(int,int)", "long most(int,boolean)",
        "long more(int,int,boolean)", "int way(int,int)", "int ring()", "int row(int)", "long gain(boolean)",
        "boolean send(int,int,int)", "boolean right()", "long left(int,boolean)", "int count(int)",
        "boolean image(int)", "boolean again(int)"));

    private static final Checks C = new Checks();

    public static void main(String[] args) throws Exception {
        Class<?> face = LossyLanes.class;
        C.due("class modifiers", face.getModifiers(), Modifier.PUBLIC | Modifier.FINAL);
        faceMethods(face);
        faceFields(face);
        Constructor<?>[] makers = face.getDeclaredConstructors();
        C.due("constructors", makers.length, 1);
        C.holds("the constructor is public, without arguments",
            Modifier.isPublic(makers[0].getModifiers()) && makers[0].getParameterCount() == 0);
        C.holds("at most twelve classes", face.getDeclaredClasses().length < 12);
        Set<String> names = Arrays.stream(face.getMethods()).filter(m -> m.getDeclaringClass() == face)
            .map(Method::getName).collect(Collectors.toSet());
        for (Class<?> inside : face.getDeclaredClasses()) {
            insideClass(inside, names);
        }
        C.end();
    }

    private static void faceMethods(Class<?> face) {
        Set<String> seen = new TreeSet<>();
        for (Method m : face.getDeclaredMethods()) {
            if (Modifier.isPrivate(m.getModifiers())) {
                continue;
            }
            C.due(m + ": modifiers", m.getModifiers(), Modifier.PUBLIC);
            seen.add(m.getReturnType() + " " + m.getName() + Arrays.stream(m.getParameterTypes())
                .map(Class::getName).collect(Collectors.joining(",", "(", ")")));
        }
        C.holds("the face's methods: " + seen, seen.equals(FACE));
    }

    private static void faceFields(Class<?> face) throws Exception {
        int open = 0;
        for (Field f : face.getDeclaredFields()) {
            if (Modifier.isStatic(f.getModifiers())) {
                C.holds(f + " is final", Modifier.isFinal(f.getModifiers()));
            }
            open += Modifier.isPrivate(f.getModifiers()) ? 0 : 1;
        }
        C.due("constants that can be seen", open, 1);
        C.due("NONE", face.getField("NONE").getInt(null), -1);
        C.holds("NONE is an int", face.getField("NONE").getType() == int.class);
    }

    private static void insideClass(Class<?> inside, Set<String> names) {
        C.holds(inside + " is static", Modifier.isStatic(inside.getModifiers()));
        C.holds(inside + " is not public", !Modifier.isPublic(inside.getModifiers()));
        for (Method m : inside.getDeclaredMethods()) {
            C.holds(m + " bears no name of the face", !names.contains(m.getName()));
            C.holds(m + " has at most seven parameters", m.getParameterCount() <= 7);
        }
        int fields = 0;
        for (Field f : inside.getDeclaredFields()) {
            boolean constant = Modifier.isStatic(f.getModifiers());
            C.holds(f + " is final if static", !constant || Modifier.isFinal(f.getModifiers()));
            fields += constant ? 0 : 1;
        }
        C.holds(inside + " has at most twenty fields", fields <= 20);
    }
}
