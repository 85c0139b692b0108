import java.lang.reflect.Constructor;
import java.lang.reflect.Field;
import java.lang.reflect.Method;
import java.lang.reflect.Modifier;
import java.util.Set;
import java.util.TreeSet;

/** The face has what the document says and nothing else that could be seen from outside (LANGUAGE.md, rule 1). */
public final class FaceTest {
    private static final Check CHECK = new Check();

    public static void main(String[] args) {
        Class<?> face = VoiceGateway.class;
        CHECK.due("the class", Modifier.toString(face.getModifiers()), "public final");
        constants(face);
        methods(face);
        Constructor<?>[] constructors = face.getDeclaredConstructors();
        CHECK.due("constructors", constructors.length, 1);
        CHECK.due("the constructor", constructors[0].toString(), "public VoiceGateway()");
        for (Class<?> inner : face.getDeclaredClasses()) {
            CHECK.due(inner + " is static", Modifier.isStatic(inner.getModifiers()), true);
            CHECK.due(inner + " is public", Modifier.isPublic(inner.getModifiers()), false);
        }
        CHECK.end();
    }

    private static void constants(Class<?> face) {
        String want = "BAD=-1 EMPTY=-2 FAR=-5 FULL=-3 LATE=-4 OTHER=-7 TWICE=-6";
        Set<String> got = new TreeSet<>();
        for (Field field : face.getDeclaredFields()) {
            if (!Modifier.isPrivate(field.getModifiers())) {
                CHECK.due(field.getName(), Modifier.toString(field.getModifiers()), "public static final");
                got.add(field.getName() + "=" + valueOf(field));
            }
        }
        CHECK.due("constants", String.join(" ", got), want);
    }

    private static int valueOf(Field field) {
        try {
            return field.getInt(null);
        } catch (IllegalAccessException e) {
            throw new IllegalStateException(e);
        }
    }

    private static void methods(Class<?> face) {
        Set<String> want = new TreeSet<>(Set.of(
                "int compress(int,int)", "int expand(int,int)", "boolean feed(int)", "boolean begin(int,int,int)",
                "int send(int,int,boolean)", "int line()", "int byteAt(int,int)", "boolean poke(int,int,int)",
                "boolean disturb(int,int)", "int receive()", "boolean prefill(int)", "int play()", "int output()",
                "int sample(int)", "boolean pass(int)", "int figure(int)"));
        Set<String> got = new TreeSet<>();
        Set<String> names = new TreeSet<>();
        for (Method method : face.getDeclaredMethods()) {
            if (!Modifier.isPrivate(method.getModifiers())) {
                got.add(method.toString().replace("public ", "").replace("VoiceGateway.", ""));
                names.add(method.getName());
            }
        }
        CHECK.due("methods", String.join("; ", got), String.join("; ", want));
        for (Method method : face.getDeclaredMethods()) {
            boolean hidden = Modifier.isPrivate(method.getModifiers());
            CHECK.due(method + " hides behind a public name", hidden && names.contains(method.getName()), false);
        }
    }
}
