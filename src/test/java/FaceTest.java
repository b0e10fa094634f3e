import java.lang.reflect.Constructor;
import java.lang.reflect.Field;
import java.lang.reflect.Method;
import java.lang.reflect.Modifier;
import java.util.Set;
import java.util.TreeSet;
import java.util.stream.Collectors;

/** The public face is the document's, and nothing else can be seen from outside. */
public final class FaceTest {
    private static final Check CHECK = new Check("FaceTest");
    private static final String FACE = "int write(int), int wipe(), int fault(), int hoard(), int coin(int int), "
        + "int mint(int int), int clean(int int), int date(int int), int aside(int), int strike(int int), "
        + "int setRate(int), int setLaw(int), int undo(), int fits(int int int), int chain(int int), "
        + "int unit(int int), int ranked(int), int pair(int), int judge(int long), int see(int int), int unsee(), "
        + "int which(int), int share(int boolean), int lost(int boolean), long seed(long), int drawn(int), "
        + "int keep(int), int again(int), int count(int)";

    public static void main(String[] args) {
        Class<?> type = CommonUnits.class;
        CHECK.holds("public", Modifier.isPublic(type.getModifiers()));
        CHECK.holds("final", Modifier.isFinal(type.getModifiers()));
        methods(type);
        fields(type);
        Constructor<?>[] constructors = type.getDeclaredConstructors();
        CHECK.due("constructors", constructors.length, 1);
        CHECK.holds("the public one", Modifier.isPublic(constructors[0].getModifiers())
            && constructors[0].getParameterCount() == 0);
        for (Class<?> inside : type.getDeclaredClasses()) {
            int flags = inside.getModifiers();
            CHECK.holds(inside + " is static and not visible", Modifier.isStatic(flags) && !Modifier.isPublic(flags)
                && !Modifier.isProtected(flags));
        }
        CHECK.end();
    }

    private static void methods(Class<?> type) {
        Set<String> seen = new TreeSet<>();
        Set<String> names = new TreeSet<>();
        for (Method method : type.getDeclaredMethods()) {
            if (Modifier.isPublic(method.getModifiers())) {
                names.add(method.getName());
                StringBuilder parameters = new StringBuilder();
                for (Class<?> parameter : method.getParameterTypes()) {
                    parameters.append(parameters.length() == 0 ? "" : " ").append(parameter.getName());
                }
                seen.add(method.getReturnType() + " " + method.getName() + "(" + parameters + ")");
            } else {
                CHECK.holds(method + " is private", Modifier.isPrivate(method.getModifiers()));
            }
        }
        Set<String> due = Set.of(FACE.split(", ")).stream().collect(Collectors.toCollection(TreeSet::new));
        CHECK.holds("the methods " + seen, seen.equals(due));
        for (Method method : type.getDeclaredMethods()) {
            CHECK.holds(method + " has a name of its own", Modifier.isPublic(method.getModifiers())
                || !names.contains(method.getName()));
        }
        for (Class<?> inside : type.getDeclaredClasses()) {
            for (Method method : inside.getDeclaredMethods()) {
                CHECK.holds(method + " has a name of its own", !names.contains(method.getName()));
            }
        }
    }

    private static void fields(Class<?> type) {
        Set<String> seen = new TreeSet<>();
        for (Field field : type.getDeclaredFields()) {
            int flags = field.getModifiers();
            if (Modifier.isPublic(flags)) {
                CHECK.holds(field + " is a constant", Modifier.isStatic(flags) && Modifier.isFinal(flags)
                    && field.getType() == int.class);
                seen.add(field.getName());
            } else {
                CHECK.holds(field + " is private", Modifier.isPrivate(flags));
            }
        }
        CHECK.holds("the constants " + seen, seen.equals(Set.of("UNKNOWN", "OUTSIDE", "STATE", "FULL", "NONE")));
    }
}
