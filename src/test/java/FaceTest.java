import java.lang.reflect.Constructor;
import java.lang.reflect.Field;
import java.lang.reflect.Method;
import java.lang.reflect.Modifier;
import java.nio.file.Files;
import java.nio.file.Path;
import java.util.Set;
import java.util.TreeSet;
import java.util.regex.Matcher;
import java.util.regex.Pattern;

/** The public face, and those rules of LANGUAGE.md that can be seen from the class and its source. */
public final class FaceTest {
    private static final String[] FACE = {"int town()", "int stick(int,int,int)", "int type(int)", "int clear()",
        "int read()", "int suck(int,int)", "int snap(int,int)", "int lays(int,int)", "int undo()", "int of(int,int)",
        "int at(int,int,int)", "int told(int)", "int sucks(int,int)", "int breaks(int,int)", "int letters(int)",
        "int row(int)", "int note(int,int,int,int)", "int forget()", "int is(int)", "int next(int)",
        "int names(int,int)", "int whose(int,int)", "int court(int,int)", "int rain(int,int)", "int years(int,int)",
        "long part(int)", "int image(int)", "int from(int)", "int status(int)", "int count(int)", "long digest()"};
    private static final String[] RULED_OUT = {"\\bthrow\\b", "\\bthrows\\b", "\\btry\\b", "\\bcatch\\b",
        "\\bsynchronized\\b", "\\bassert\\b", "->", "::", "\\bimport\\b", "\\bpackage\\b", "Exact\\b",
        "\\bextends Exception\\b", "\\bhashCode\\b", "\\btoString\\b", "\\bObject\\b", "\\bvolatile\\b",
        "\\bThread\\b", "nanoTime", "currentTimeMillis", "\\bRandom\\b", "\\bstatic\\s*\\{"};
    private static int wrong = 0;

    private static void mustBe(boolean is, String what) {
        if (!is) {
            wrong++;
            System.out.println(what);
        }
    }

    private static String signature(Method m) {
        StringBuilder s = new StringBuilder(m.getReturnType() + " " + m.getName() + "(");
        for (Class<?> type : m.getParameterTypes()) {
            s.append(s.charAt(s.length() - 1) == '(' ? "" : ",").append(type);
        }
        return s.append(")").toString();
    }

    private static void face() {
        Class<?> c = RockName.class;
        mustBe(Modifier.isPublic(c.getModifiers()) && Modifier.isFinal(c.getModifiers()), "the class is public, final");
        Set<String> is = new TreeSet<>();
        for (Method m : c.getDeclaredMethods()) {
            if (!Modifier.isPrivate(m.getModifiers()) && !m.isSynthetic()) {
                mustBe(Modifier.isPublic(m.getModifiers()) && !Modifier.isStatic(m.getModifiers()), "not public: " + m);
                is.add(signature(m));
            }
        }
        mustBe(is.equals(new TreeSet<>(Set.of(FACE))), "the face is " + is);
        Constructor<?>[] made = c.getDeclaredConstructors();
        mustBe(made.length == 1 && Modifier.isPublic(made[0].getModifiers()) && made[0].getParameterCount() == 0,
            "one public constructor");
        Set<String> constants = new TreeSet<>();
        for (Field f : c.getDeclaredFields()) {
            if (!Modifier.isPrivate(f.getModifiers())) {
                constants.add(Modifier.toString(f.getModifiers()) + " " + f.getType() + " " + f.getName());
            }
        }
        mustBe(constants.equals(Set.of("public static final int NONE", "public static final int BAD",
            "public static final int NO", "public static final int FULL")), "the constants are " + constants);
    }

    private static void namesOf(Class<?> c, Set<String> publicNames) {
        int fields = 0;
        for (Method m : c.getDeclaredMethods()) {
            boolean own = c != RockName.class || Modifier.isPrivate(m.getModifiers());
            mustBe(!own || !publicNames.contains(m.getName()), "bears a public name: " + m);
            mustBe(m.getParameterCount() <= 7, "more than seven parameters: " + m);
        }
        for (Field f : c.getDeclaredFields()) {
            boolean isStatic = Modifier.isStatic(f.getModifiers());
            mustBe(!isStatic || Modifier.isFinal(f.getModifiers()), "static state: " + f);
            fields += isStatic ? 0 : 1;
        }
        mustBe(fields <= 20, "too many fields: " + c);
    }

    private static void classes() {
        Set<String> publicNames = new TreeSet<>();
        for (String one : FACE) {
            publicNames.add(one.substring(one.indexOf(' ') + 1, one.indexOf('(')));
        }
        namesOf(RockName.class, publicNames);
        Class<?>[] inside = RockName.class.getDeclaredClasses();
        mustBe(inside.length <= 11, "too many classes");
        for (Class<?> c : inside) {
            boolean shown = Modifier.isPublic(c.getModifiers()) || Modifier.isProtected(c.getModifiers());
            mustBe(Modifier.isStatic(c.getModifiers()) && !shown, "not static or shown: " + c);
            namesOf(c, publicNames);
        }
    }

    private static String withoutComments(String source) {
        return source.replaceAll("(?s)/\\*.*?\\*/", " ").replaceAll("//[^\n]*", " ");
    }

    private static void words(String code) {
        for (String ruledOut : RULED_OUT) {
            mustBe(!Pattern.compile(ruledOut).matcher(code).find(), "ruled out: " + ruledOut);
        }
        Matcher library = Pattern.compile("\\b(Math|Integer|Long|System|Arrays)\\.(\\w+)").matcher(code);
        while (library.find()) {
            mustBe(Set.of("Math.min", "Math.max", "Integer.bitCount", "System.arraycopy").contains(library.group()),
                "of the library: " + library.group());
        }
        mustBe(code.chars().allMatch(c -> c < 128), "a sign beyond 127");
    }

    private static void lengths(String source) {
        Matcher m = Pattern.compile("(?ms)^( +)[\\w\\[\\] ]+\\([\\w, \\[\\]]*\\) \\{$.*?^\\1\\}$").matcher(source);
        int methods = 0;
        while (m.find()) {
            methods++;
            long lines = m.group().lines().count();
            mustBe(lines <= 60, "too long: " + m.group().lines().findFirst().get());
        }
        mustBe(methods > 31, "methods seen in the source: " + methods);
    }

    public static void main(String[] args) throws Exception {
        String source = Files.readString(Path.of(System.getProperty("rockname.source", "src/main/java/RockName.java")));
        face();
        classes();
        words(withoutComments(source));
        lengths(source);
        System.out.println(wrong == 0 ? "the face is as told" : wrong + " things are not as told");
        if (wrong != 0) {
            System.exit(1);
        }
    }
}
