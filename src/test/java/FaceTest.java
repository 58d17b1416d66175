import java.lang.reflect.Constructor;
import java.lang.reflect.Field;
import java.lang.reflect.Method;
import java.lang.reflect.Modifier;
import java.util.TreeSet;

/** The public face, the constants, and LANGUAGE.md's rules about members, seen by reflection. */
public final class FaceTest {
    private static final String[] METHODS = {
        "int setBase(int,int,int)", "int addDigit(int,int)", "int removeDigit(int,int)", "int choose(int,int)",
        "int digitAt(int,int)", "int chosen(int,int)", "int system(int,int)", "int digit(int,int,int,int)",
        "int numerator(int,int,int,int)", "int preperiod(int,int,int)", "int period(int,int,int)",
        "int length(int,int,int)", "int cycleCount(int)", "int cycle(int,int,int)", "int leadsTo(int,int)",
        "int reachesAll(int)", "int expansions(int,int,int)", "int expansionDigit(int,int,int,int,int)",
        "int shortest(int,int)", "int push(int,int)", "int clear(int)", "int size(int)", "int entry(int,int)",
        "long value(int,int,boolean)", "int compare(int,int,int,int)", "int load(int,int,int)",
        "int add(int,int,int,int)", "int multiply(int,int,int,int)", "int convert(int,int,int)",
        "int nextCarry(int,int,int)", "int carryCount(int)", "int carry(int,int)"};

    private static String told(Method method) {
        StringBuilder text = new StringBuilder(method.getReturnType() + " " + method.getName() + "(");
        for (Class<?> parameter : method.getParameterTypes()) {
            text.append(text.charAt(text.length() - 1) == '(' ? "" : ",").append(parameter);
        }
        return text.append(")").toString();
    }

    private static void methods(TreeSet<String> publicNames) {
        TreeSet<String> found = new TreeSet<>();
        for (Method method : NumerationSystems.class.getDeclaredMethods()) {
            int modifiers = method.getModifiers();
            if (Modifier.isPublic(modifiers)) {
                Check.holds(method + " belongs to an object", !Modifier.isStatic(modifiers));
                found.add(told(method));
                publicNames.add(method.getName());
            } else {
                Check.holds(method + " is private", Modifier.isPrivate(modifiers));
            }
        }
        TreeSet<String> due = new TreeSet<>(java.util.Arrays.asList(METHODS));
        if (!found.equals(due)) {
            System.out.println("the public methods are " + found);
        }
        Check.holds("the public methods are those of the document", found.equals(due));
    }

    private static void fields() {
        int constants = 0;
        for (Field field : NumerationSystems.class.getDeclaredFields()) {
            int modifiers = field.getModifiers();
            Check.holds(field + " is public or private", Modifier.isPublic(modifiers) || Modifier.isPrivate(modifiers));
            if (Modifier.isPublic(modifiers)) {
                constants++;
                Check.holds(field + " is a constant", Modifier.isStatic(modifiers) && Modifier.isFinal(modifiers));
            }
        }
        Check.due("the number of constants", 7, constants);
        Check.due("UNKNOWN", -1000001, NumerationSystems.UNKNOWN);
        Check.due("BAD_VALUE", -1000002, NumerationSystems.BAD_VALUE);
        Check.due("INCOMPLETE", -1000003, NumerationSystems.INCOMPLETE);
        Check.due("NOT_POSSIBLE", -1000004, NumerationSystems.NOT_POSSIBLE);
        Check.due("FULL", -1000005, NumerationSystems.FULL);
        Check.due("NONE", -1000006, NumerationSystems.NONE);
        Check.due("NO_VALUE", Long.MIN_VALUE, NumerationSystems.NO_VALUE);
    }

    private static void constructors() {
        Constructor<?>[] all = NumerationSystems.class.getDeclaredConstructors();
        Check.due("the number of constructors", 1, all.length);
        Check.holds("the constructor", Modifier.isPublic(all[0].getModifiers()) && all[0].getParameterCount() == 0);
    }

    private static void classesInside(TreeSet<String> publicNames) {
        Class<?>[] inside = NumerationSystems.class.getDeclaredClasses();
        Check.holds("at most twelve classes", inside.length + 1 <= 12);
        for (Class<?> one : inside) {
            Check.holds(one + " is static", Modifier.isStatic(one.getModifiers()));
            Check.holds(one + " is not public", !Modifier.isPublic(one.getModifiers()) && !Modifier.isProtected(one.getModifiers()));
            for (Method method : one.getDeclaredMethods()) {
                Check.holds(method + " bears no public name", !publicNames.contains(method.getName()));
            }
            for (Field field : one.getDeclaredFields()) {
                Check.holds(field + " is final if it is static",
                        !Modifier.isStatic(field.getModifiers()) || Modifier.isFinal(field.getModifiers()));
            }
        }
        for (Method method : NumerationSystems.class.getDeclaredMethods()) {
            Check.holds(method + " bears no public name",
                    Modifier.isPublic(method.getModifiers()) || !publicNames.contains(method.getName()));
        }
    }

    public static void main(String[] args) {
        TreeSet<String> publicNames = new TreeSet<>();
        Check.holds("public and final", Modifier.isPublic(NumerationSystems.class.getModifiers())
                && Modifier.isFinal(NumerationSystems.class.getModifiers()));
        methods(publicNames);
        fields();
        constructors();
        classesInside(publicNames);
        Check.finish("FaceTest");
    }
}
