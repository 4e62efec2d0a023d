import java.lang.reflect.Field;
import java.lang.reflect.Method;
import java.lang.reflect.Modifier;
import java.util.Arrays;
import java.util.Set;
import java.util.TreeSet;

/** The class has the document's face and no other member that can be seen (LANGUAGE.md, rules 1 and 5). */
public final class FaceTest {
    private static final String[] CONSTANTS = {
        "NONE=-1", "UNKNOWN=-2", "OUTSIDE=-3", "FULL=-4", "NULL=-11", "CAST=-12", "INDEX=-13", "SIZE=-14", "DIVIDE=-15", "WRAP=-16"
    };
    private static final String[] METHODS = {
        "int make(int,int,int)", "int nothing()", "int set(int,int,long)",
        "long at(int,int) throws java.lang.IndexOutOfBoundsException,java.util.NoSuchElementException",
        "int told(int,int)", "int act(int,int,int)", "int times(int,int,int)", "int order(int,int)",
        "int put(int)", "int read()", "int print(int)", "int out(int)",
        "int plan(int)", "int rule(int)", "int count(int,int)", "int weight(int,int)", "int total(int)", "int safe(int)",
        "int keep(int)", "int kept(int)", "int many(int)", "int drop()"
    };

    public static void main(String[] args) throws IllegalAccessException {
        Checks checks = new Checks();
        Class<?> face = LevelScores.class;
        checks.due("the class is", Modifier.toString(face.getModifiers()), "public final");
        checks.due("the constants are", visibleFields(face).toString(), new TreeSet<>(Arrays.asList(CONSTANTS)).toString());
        checks.due("the methods are", visibleMethods(face).toString(), new TreeSet<>(Arrays.asList(METHODS)).toString());
        checks.due("the constructors are", Arrays.toString(face.getDeclaredConstructors()), "[public LevelScores()]");
        checks.due("static fields that are not final", staticState(face), "");
        checks.due("hidden methods with a public one's name", namesakes(face), "");
        checks.end();
    }

    private static Set<String> visibleFields(Class<?> face) throws IllegalAccessException {
        Set<String> all = new TreeSet<>();
        for (Field field : face.getDeclaredFields()) {
            int modifiers = field.getModifiers();
            if (Modifier.isPublic(modifiers) && Modifier.isStatic(modifiers) && Modifier.isFinal(modifiers) && field.getType() == int.class) {
                all.add(field.getName() + "=" + field.getInt(null));
            } else if (!Modifier.isPrivate(modifiers)) {
                all.add(field.toString());
            }
        }
        return all;
    }

    private static Set<String> visibleMethods(Class<?> face) {
        Set<String> all = new TreeSet<>();
        for (Method method : face.getDeclaredMethods()) {
            if (!Modifier.isPrivate(method.getModifiers())) {
                all.add(method.toGenericString().replace("LevelScores.", "").replaceFirst("^public ", ""));
            }
        }
        return all;
    }

    private static String staticState(Class<?> face) {
        StringBuilder all = new StringBuilder();
        for (Class<?> one : withInner(face)) {
            for (Field field : one.getDeclaredFields()) {
                if (Modifier.isStatic(field.getModifiers()) && !Modifier.isFinal(field.getModifiers())) {
                    all.append(field).append(' ');
                }
            }
        }
        return all.toString();
    }

    private static String namesakes(Class<?> face) {
        Set<String> open = new TreeSet<>();
        for (Method method : face.getDeclaredMethods()) {
            if (Modifier.isPublic(method.getModifiers())) {
                open.add(method.getName());
            }
        }
        StringBuilder all = new StringBuilder();
        for (Class<?> one : withInner(face)) {
            for (Method method : one.getDeclaredMethods()) {
                boolean hidden = one != face || !Modifier.isPublic(method.getModifiers());
                if (hidden && open.contains(method.getName())) {
                    all.append(method).append(' ');
                }
            }
        }
        return all.toString();
    }

    private static Class<?>[] withInner(Class<?> face) {
        Class<?>[] inner = face.getDeclaredClasses();
        Class<?>[] all = Arrays.copyOf(inner, inner.length + 1);
        all[inner.length] = face;
        return all;
    }
}
