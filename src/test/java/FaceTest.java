import java.lang.reflect.Constructor;
import java.lang.reflect.Field;
import java.lang.reflect.Member;
import java.lang.reflect.Method;
import java.lang.reflect.Modifier;
import java.util.Arrays;
import java.util.Set;
import java.util.TreeSet;

/** "The public face": these members, and no others. */
final class FaceTest {
    private static final Due due = new Due("the public face");

    static final Set<String> METHODS = Set.of(
            "set(int, int, int)", "mode(int, int)", "exchange(int, int)", "car(int, int)", "push(int)",
            "stick(int, int)", "run(int)", "restart()", "of(int, int)", "ring(int, int)", "state(int)", "check()");

    public static void main(String[] args) {
        due.test("the class is public, final, without a package or a parent", FaceTest::theClass);
        due.test("the constant NONE alone", FaceTest::theConstant);
        due.test("the constructor without arguments alone", FaceTest::theConstructor);
        due.test("the methods alone, each answering an int", FaceTest::theMethods);
        due.test("no private method has the name of a public one", FaceTest::noNameTwice);
        due.test("classes inside are static and not public", FaceTest::classesInside);
        due.end();
    }

    private static void yes(String what, boolean is) {
        due.is(what, is ? 1 : 0, 1);
    }

    private static void theClass() {
        int modifiers = CrossingDesk.class.getModifiers();
        yes("public", Modifier.isPublic(modifiers));
        yes("final", Modifier.isFinal(modifiers));
        yes("no package", CrossingDesk.class.getPackageName().isEmpty());
        yes("no parent", CrossingDesk.class.getSuperclass() == Object.class);
        due.is("interfaces", CrossingDesk.class.getInterfaces().length, 0);
    }

    private static void theConstant() {
        for (Field field : CrossingDesk.class.getDeclaredFields()) {
            boolean isNone = field.getName().equals("NONE");
            yes(field.getName() + " is private, or NONE", isNone ? isPublicConstant(field) : isHidden(field));
        }
        due.is("NONE", CrossingDesk.NONE, -1);
    }

    private static boolean isPublicConstant(Field field) {
        int modifiers = field.getModifiers();
        return Modifier.isPublic(modifiers) && Modifier.isStatic(modifiers) && Modifier.isFinal(modifiers)
                && field.getType() == int.class;
    }

    private static boolean isHidden(Member member) {
        return Modifier.isPrivate(member.getModifiers()) || member.isSynthetic();
    }

    private static void theConstructor() {
        Constructor<?>[] all = CrossingDesk.class.getDeclaredConstructors();
        due.is("constructors", all.length, 1);
        yes("public", Modifier.isPublic(all[0].getModifiers()));
        due.is("arguments", all[0].getParameterCount(), 0);
        due.is("exceptions", all[0].getExceptionTypes().length, 0);
    }

    private static void theMethods() {
        Set<String> found = new TreeSet<>();
        for (Method method : CrossingDesk.class.getDeclaredMethods()) {
            if (!isHidden(method)) {
                String called = method.getName() + arguments(method);
                found.add(called);
                yes(called + " is public", Modifier.isPublic(method.getModifiers()));
                yes(called + " is not static", !Modifier.isStatic(method.getModifiers()));
                yes(called + " answers an int", method.getReturnType() == int.class);
                due.is(called + " exceptions", method.getExceptionTypes().length, 0);
            }
        }
        yes("all of them and no other: " + found, found.equals(METHODS));
    }

    private static String arguments(Method method) {
        return Arrays.toString(method.getParameterTypes()).replace('[', '(').replace(']', ')');
    }

    private static void noNameTwice() {
        for (Method method : CrossingDesk.class.getDeclaredMethods()) {
            String start = method.getName() + "(";
            boolean isOfTheFace = METHODS.stream().anyMatch(called -> called.startsWith(start));
            yes(method.getName(), !(isHidden(method) && isOfTheFace));
        }
    }

    private static void classesInside() {
        for (Class<?> inside : CrossingDesk.class.getDeclaredClasses()) {
            yes(inside + " is static", Modifier.isStatic(inside.getModifiers()));
            yes(inside + " is not public", !Modifier.isPublic(inside.getModifiers()));
            yes(inside + " is not protected", !Modifier.isProtected(inside.getModifiers()));
        }
    }
}
