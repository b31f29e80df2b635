import java.lang.reflect.Constructor;
import java.lang.reflect.Field;
import java.lang.reflect.Method;
import java.lang.reflect.Modifier;
import java.util.Arrays;
import java.util.Set;
import java.util.TreeSet;

/** The public face, and nothing beside it that is not private (LANGUAGE.md, rules 1 and 5). */
public final class FaceTest {
    private static final Check CHECK = new Check();

    private static final String[] METHODS = {
        "void setAddress(int,int,int) IndexOutOfBoundsException IllegalArgumentException",
        "void setAlias(int,int,int) IndexOutOfBoundsException IllegalArgumentException",
        "boolean remove(int) IndexOutOfBoundsException",
        "int setBound(int) IllegalArgumentException",
        "boolean setAuthority(boolean)",
        "int truth(int) IndexOutOfBoundsException",
        "int addSite(int) IllegalArgumentException IllegalStateException",
        "boolean announce(int,boolean) IndexOutOfBoundsException",
        "int siteFor(int) IllegalArgumentException",
        "boolean flush(int,int) IndexOutOfBoundsException",
        "int pass(int) IllegalArgumentException",
        "int time()",
        "int query(int,int) IndexOutOfBoundsException IllegalArgumentException IllegalStateException",
        "int wouldAnswer(int,int) IndexOutOfBoundsException IllegalArgumentException IllegalStateException",
        "int lastSite()",
        "boolean lastWasStale()",
        "int lastLookUps()",
        "int lastFetches()",
        "int entries(int) IndexOutOfBoundsException",
        "int cachedKind(int,int) IndexOutOfBoundsException",
        "int cachedValue(int,int) IndexOutOfBoundsException",
        "int left(int,int) IndexOutOfBoundsException IllegalStateException",
        "int hitsOf(int,int) IndexOutOfBoundsException",
        "int queries()",
        "int fetches()",
        "int prefetches()",
        "int staleAnswers()",
        "int failures()",
    };

    private static final String[] CONSTANTS = {
        "int NO_NAME = -1", "int FAILED = -2", "int NONE = -3",
        "int ADDRESS = 0", "int ALIAS = 1", "int NOTHING = 2", "int NO_ENTRY = 3",
    };

    public static void main(String[] args) throws IllegalAccessException {
        int modifiers = ResolverFleet.class.getModifiers();
        CHECK.same("the class is public", Modifier.isPublic(modifiers), true);
        CHECK.same("the class is final", Modifier.isFinal(modifiers), true);
        methods();
        fields();
        constructors();
        insideClasses();
        CHECK.finish();
    }

    private static void methods() {
        Set<String> shown = new TreeSet<>();
        Set<String> hidden = new TreeSet<>();
        for (Method method : ResolverFleet.class.getDeclaredMethods()) {
            if (Modifier.isPrivate(method.getModifiers())) {
                hidden.add(method.getName());
            } else {
                CHECK.same(method.getName() + " is public", Modifier.isPublic(method.getModifiers()), true);
                CHECK.same(method.getName() + " is static", Modifier.isStatic(method.getModifiers()), false);
                shown.add(signature(method));
            }
        }
        CHECK.same("the methods", shown.toString(), new TreeSet<>(Arrays.asList(METHODS)).toString());
        for (String line : METHODS) {
            String name = line.substring(line.indexOf(' ') + 1, line.indexOf('('));
            CHECK.same("a private method named " + name, hidden.contains(name), false);
        }
    }

    private static String signature(Method method) {
        StringBuilder line = new StringBuilder();
        line.append(method.getReturnType().getSimpleName()).append(' ').append(method.getName()).append('(');
        String comma = "";
        for (Class<?> type : method.getParameterTypes()) {
            line.append(comma).append(type.getSimpleName());
            comma = ",";
        }
        line.append(')');
        for (Class<?> thrown : method.getExceptionTypes()) {
            line.append(' ').append(thrown.getSimpleName());
        }
        return line.toString();
    }

    private static void fields() throws IllegalAccessException {
        Set<String> shown = new TreeSet<>();
        for (Field field : ResolverFleet.class.getDeclaredFields()) {
            int modifiers = field.getModifiers();
            if (Modifier.isStatic(modifiers)) {
                CHECK.same(field.getName() + " is final", Modifier.isFinal(modifiers), true);
            }
            if (!Modifier.isPrivate(modifiers)) {
                CHECK.same(field.getName() + " is public", Modifier.isPublic(modifiers), true);
                CHECK.same(field.getName() + " is static", Modifier.isStatic(modifiers), true);
                shown.add(field.getType().getSimpleName() + " " + field.getName() + " = " + field.getInt(null));
            }
        }
        CHECK.same("the constants", shown.toString(), new TreeSet<>(Arrays.asList(CONSTANTS)).toString());
    }

    private static void constructors() {
        Constructor<?>[] all = ResolverFleet.class.getDeclaredConstructors();
        CHECK.same("the number of constructors", all.length, 1);
        CHECK.same("the constructor's parameters", all[0].getParameterCount(), 0);
        CHECK.same("the constructor is public", Modifier.isPublic(all[0].getModifiers()), true);
    }

    private static void insideClasses() {
        for (Class<?> inside : ResolverFleet.class.getDeclaredClasses()) {
            CHECK.same(inside.getName() + " is public", Modifier.isPublic(inside.getModifiers()), false);
            CHECK.same(inside.getName() + " is protected", Modifier.isProtected(inside.getModifiers()), false);
        }
    }
}
