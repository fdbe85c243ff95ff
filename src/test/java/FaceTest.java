import java.lang.reflect.Constructor;
import java.lang.reflect.Field;
import java.lang.reflect.Method;
import java.lang.reflect.Modifier;
import java.util.Arrays;
import java.util.Set;
import java.util.TreeSet;
import java.util.stream.Collectors;

/** The public face, and rule 1 of LANGUAGE.md. */
public final class FaceTest {
    private static final String[] FACE = {"int rider(int,int,int)", "int set(int,int,int)", "int told(int,int)",
        "int lets(int,int)", "int feed(int)", "int text()", "int force(int)", "int ride(int)", "int floor(int,int)",
        "int stand(int)", "int one(int,int)", "int change(int)", "int second(int)", "int stands()", "long mean(int,int)",
        "int landings(int)", "int seen(int,int,int)", "int film(int,int)", "int drawn(int)", "long chance(int,int,int)",
        "int image()", "int back()", "int count(int)", "int sheet(int,int,int)", "int cell(int,int,int)",
        "int copy(int,int,int,int,int)", "int riders(int,int,int,int)", "int taken(int,int)"};

    private static final Set<String> NAMES = Arrays.stream(FACE).map(f -> f.replaceAll("^.* |\\(.*$", "")).collect(Collectors.toSet());

    public static void main(String[] args) {
        methods();
        constantsAndFields();
        classesInside();
        Check.end("FaceTest");
    }

    private static String told(Method m) {
        String parameters = Arrays.stream(m.getParameterTypes()).map(Class::getName).collect(Collectors.joining(","));
        return m.getReturnType().getName() + " " + m.getName() + "(" + parameters + ")";
    }

    private static void methods() {
        Set<String> face = new TreeSet<>();
        for (Method m : GetsOutFirst.class.getDeclaredMethods()) {
            if (Modifier.isPublic(m.getModifiers())) {
                face.add(told(m));
                Check.holds("not static: " + m, !Modifier.isStatic(m.getModifiers()));
            } else {
                Check.holds("private: " + m, Modifier.isPrivate(m.getModifiers()));
            }
        }
        Check.holds("the face is " + face, face.equals(new TreeSet<>(Arrays.asList(FACE))));
        for (Method m : GetsOutFirst.class.getDeclaredMethods()) {
            Check.holds("bears no public name: " + m, Modifier.isPublic(m.getModifiers()) || !NAMES.contains(m.getName()));
        }
        Constructor<?>[] made = GetsOutFirst.class.getDeclaredConstructors();
        Check.due("constructors", made.length, 1);
        Check.holds("public, without parameters", made[0].getParameterCount() == 0 && Modifier.isPublic(made[0].getModifiers()));
        Check.holds("public and final", (GetsOutFirst.class.getModifiers() & (Modifier.PUBLIC | Modifier.FINAL))
            == (Modifier.PUBLIC | Modifier.FINAL));
    }

    private static void constantsAndFields() {
        Set<String> face = new TreeSet<>();
        for (Field f : GetsOutFirst.class.getDeclaredFields()) {
            if (Modifier.isPublic(f.getModifiers())) {
                Check.holds("a constant: " + f, Modifier.isStatic(f.getModifiers()) && Modifier.isFinal(f.getModifiers()));
                face.add(f.getType().getName() + " " + f.getName());
            } else {
                Check.holds("private: " + f, Modifier.isPrivate(f.getModifiers()));
            }
        }
        Check.holds("constants are " + face,
            face.equals(new TreeSet<>(Arrays.asList("int NONE", "int BAD", "int STATE", "int FULL", "long NO"))));
        Check.due("NONE", GetsOutFirst.NONE, -1);
        Check.due("BAD", GetsOutFirst.BAD, -2);
        Check.due("STATE", GetsOutFirst.STATE, -3);
        Check.due("FULL", GetsOutFirst.FULL, -4);
        Check.due("NO", GetsOutFirst.NO, -4611686018427387904L);
    }

    private static void classesInside() {
        Class<?>[] inside = GetsOutFirst.class.getDeclaredClasses();
        Check.holds("at most twelve classes", inside.length < 12);
        for (Class<?> c : inside) {
            int m = c.getModifiers();
            Check.holds("static, not public: " + c, Modifier.isStatic(m) && !Modifier.isPublic(m) && !Modifier.isProtected(m));
            atMostTwentyFields(c);
            for (Field f : c.getDeclaredFields()) {
                Check.holds("no state that is static: " + f,
                    !Modifier.isStatic(f.getModifiers()) || Modifier.isFinal(f.getModifiers()));
            }
            for (Method made : c.getDeclaredMethods()) {
                Check.holds("bears no public name: " + made, !NAMES.contains(made.getName()));
            }
        }
        atMostTwentyFields(GetsOutFirst.class);
    }

    private static void atMostTwentyFields(Class<?> c) {
        long fields = Arrays.stream(c.getDeclaredFields()).filter(f -> !Modifier.isStatic(f.getModifiers())).count();
        Check.holds("at most twenty fields: " + c, fields <= 20);
    }
}
