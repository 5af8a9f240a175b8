import java.lang.reflect.Constructor;
import java.lang.reflect.Field;
import java.lang.reflect.Method;
import java.lang.reflect.Modifier;
import java.util.Set;
import java.util.TreeSet;

/** The class shows the document's face, and nothing besides. */
public final class FaceTest {
    private static final String[] METHODS = {
        "int set(int,int)", "int film(int,int,int,int,int)", "int show(int,int,int)", "int drop(int,int)",
        "int exchange(int,int,int,int)", "int let(int,int)", "int carryOut()", "int at(int,int,int)",
        "int of(int,int)", "int inWeek(int,int,int)", "int week(int,int)", "int distributor(int,int)",
        "int rent(int)", "int count(int)", "int ifShown(int,int,int)", "int bestFilm(int,int,int)",
        "int worstShow(int)", "int priceFor(int,int,int)", "int put(long)", "int wipe()", "int fault()",
        "int undo()", "int save(int)", "int restore(int)"};
    private static final String[] CONSTANTS = {
        "NO_SUCH=-1", "BAD_VALUE=-2", "BAD_TEXT=-3", "TOO_MANY=-4", "NOT_POSSIBLE=-5", "NONE=-6",
        "SEATS=0", "PRICE=1", "COST=2", "EVENING=3", "AFTERNOON=4"};

    private FaceTest() {
    }

    public static void main(String[] arguments) throws ReflectiveOperationException {
        Checks checks = new Checks("FaceTest");
        int modifiers = VillageCinema.class.getModifiers();
        checks.isTrue("public and final", Modifier.isPublic(modifiers) && Modifier.isFinal(modifiers));
        checks.isTrue("the methods " + methods(), methods().equals(new TreeSet<>(Set.of(METHODS))));
        checks.isTrue("the constants " + constants(), constants().equals(new TreeSet<>(Set.of(CONSTANTS))));
        Constructor<?>[] constructors = VillageCinema.class.getDeclaredConstructors();
        checks.due("constructors", constructors.length, 1);
        checks.due("arguments of the constructor", constructors[0].getParameterCount(), 0);
        checks.isTrue("a public constructor", Modifier.isPublic(constructors[0].getModifiers()));
        for (Class<?> inside : VillageCinema.class.getDeclaredClasses()) {
            checks.isTrue(inside.getName() + " is static and not public", isHiddenAndStatic(inside));
            checkNames(checks, inside);
        }
        checkNames(checks, VillageCinema.class);
        checks.end();
    }

    private static Set<String> methods() {
        Set<String> found = new TreeSet<>();
        for (Method method : VillageCinema.class.getDeclaredMethods()) {
            if (!Modifier.isPrivate(method.getModifiers())) {
                StringBuilder text = new StringBuilder(method.getReturnType() + " " + method.getName() + "(");
                for (Class<?> type : method.getParameterTypes()) {
                    text.append(text.charAt(text.length() - 1) == '(' ? "" : ",").append(type);
                }
                found.add(text.append(")").toString());
            }
        }
        return found;
    }

    private static Set<String> constants() throws IllegalAccessException {
        Set<String> found = new TreeSet<>();
        for (Field field : VillageCinema.class.getDeclaredFields()) {
            if (!Modifier.isPrivate(field.getModifiers())) {
                found.add(field.getName() + "=" + field.getInt(null));
            }
        }
        return found;
    }

    private static boolean isHiddenAndStatic(Class<?> inside) {
        int modifiers = inside.getModifiers();
        return Modifier.isStatic(modifiers) && !Modifier.isPublic(modifiers) && !Modifier.isProtected(modifiers);
    }

    /** LANGUAGE.md, rule 1: no private method bears the name of a public one; rule 5: static fields are final; rule 11. */
    private static void checkNames(Checks checks, Class<?> type) {
        for (Method method : type.getDeclaredMethods()) {
            boolean ofFace = type == VillageCinema.class && Modifier.isPublic(method.getModifiers());
            boolean named = false;
            for (String face : METHODS) {
                named |= face.startsWith("int " + method.getName() + "(");
            }
            checks.isTrue(method + " has a name of its own", ofFace || !named);
            checks.isTrue(method + " has at most seven parameters", method.getParameterCount() <= 7);
        }
        int ofObjects = 0;
        for (Field field : type.getDeclaredFields()) {
            int modifiers = field.getModifiers();
            checks.isTrue(field + " is no static state", !Modifier.isStatic(modifiers) || Modifier.isFinal(modifiers));
            ofObjects += Modifier.isStatic(modifiers) ? 0 : 1;
        }
        checks.isTrue(type.getName() + " has some twenty fields at most", ofObjects <= 20);
    }
}
