import java.lang.reflect.Constructor;
import java.lang.reflect.Field;
import java.lang.reflect.Method;
import java.lang.reflect.Modifier;
import java.util.Set;
import java.util.TreeSet;

/** The public face, as it is seen from outside; what the source must keep to is for LanguageTest. */
public final class FaceTest {
    private static final String[] FACE = {"int town()", "int stick(int,int,int)", "int type(int)", "int clear()",
        "int read()", "int suck(int,int)", "int snap(int,int)", "int lays(int,int)", "int undo()", "int of(int,int)",
        "int at(int,int,int)", "int told(int)", "int sucks(int,int)", "int breaks(int,int)", "int letters(int)",
        "int row(int)", "int note(int,int,int,int)", "int forget()", "int is(int)", "int next(int)",
        "int names(int,int)", "int whose(int,int)", "int court(int,int)", "int rain(int,int)", "int years(int,int)",
        "long part(int)", "int image(int)", "int from(int)", "int status(int)", "int count(int)", "long digest()"};
    private static int wrong = 0;

    private static void mustBe(boolean is, String what) {
        if (!is) {
            wrong++;
            System.out.println(what);
        }
    }

    private static String signature(Method m) {
        StringBuilder s = new StringBuilder(m.getReturnType() + " " + m.getName() + "(");
        for (Class<?> type : m.getParameterTypes()) {
            s.append(s.charAt(s.length() - 1) == '(' ? "" : ",").append(type);
        }
        return s.append(")").toString();
    }

    private static void face() {
        Class<?> c = RockName.class;
        mustBe(Modifier.isPublic(c.getModifiers()) && Modifier.isFinal(c.getModifiers()), "the class is public, final");
        Set<String> is = new TreeSet<>();
        for (Method m : c.getDeclaredMethods()) {
            if (!Modifier.isPrivate(m.getModifiers()) && !m.isSynthetic()) {
                mustBe(Modifier.isPublic(m.getModifiers()) && !Modifier.isStatic(m.getModifiers()), "not public: " + m);
                is.add(signature(m));
            }
        }
        mustBe(is.equals(new TreeSet<>(Set.of(FACE))), "the face is " + is);
        Constructor<?>[] made = c.getDeclaredConstructors();
        mustBe(made.length == 1 && Modifier.isPublic(made[0].getModifiers()) && made[0].getParameterCount() == 0,
            "one public constructor");
        Set<String> constants = new TreeSet<>();
        for (Field f : c.getDeclaredFields()) {
            if (!Modifier.isPrivate(f.getModifiers())) {
                constants.add(Modifier.toString(f.getModifiers()) + " " + f.getType() + " " + f.getName());
            }
        }
        mustBe(constants.equals(Set.of("public static final int NONE", "public static final int BAD",
            "public static final int NO", "public static final int FULL")), "the constants are " + constants);
    }

    public static void main(String[] args) {
        face();
        System.out.println(wrong == 0 ? "the face is as told" : wrong + " things are not as told");
        if (wrong != 0) {
            System.exit(1);
        }
    }
}
