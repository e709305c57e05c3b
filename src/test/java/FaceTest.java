import java.lang.reflect.Constructor;
import java.lang.reflect.Field;
import java.lang.reflect.Method;
import java.lang.reflect.Modifier;
import java.util.ArrayList;
import java.util.List;

/**
 * "The public face": the class has just what stands there, with the exceptions that stand there.
 * And a court is all its own: no other one is told of in it. And README.md's example holds.
 */
public final class FaceTest extends CourtCase {
    private static final String[] METHODS = {
        "int serve(int, int, int) throws IllegalArgumentException, IllegalStateException",
        "int strike(int, int, int, int) throws IllegalArgumentException, IllegalStateException",
        "int leave() throws IllegalStateException",
        "int let() throws IllegalStateException",
        "int set(int) throws IllegalArgumentException, IllegalStateException",
        "int match(int) throws IndexOutOfBoundsException",
        "int ball(int) throws IndexOutOfBoundsException",
        "int told(int, int) throws IndexOutOfBoundsException",
        "int count(int) throws IndexOutOfBoundsException",
        "int flight(int, int) throws IllegalArgumentException, IndexOutOfBoundsException",
        "int end(int) throws IndexOutOfBoundsException",
        "int would(int, int, int, int) throws IllegalArgumentException",
        "int advise(int) throws IllegalArgumentException",
        "double mean()",
        "long digest()",
    };

    private FaceTest() {
    }

    public static void main(String[] args) {
        publicClass();
        publicConstructor();
        publicMethods();
        nothingElseIsSeen();
        courtsApart();
        readmeExample();
        Check.finish("FaceTest");
    }

    // ---- the face

    private static void dueTrue(String what, boolean holds) {
        Check.due(what, holds ? 1 : 0, 1);
    }

    /** "public final class FivesCourt", without a package and of no other class. */
    private static void publicClass() {
        int modifiers = FivesCourt.class.getModifiers();
        dueTrue("the class is public", Modifier.isPublic(modifiers));
        dueTrue("the class is final", Modifier.isFinal(modifiers));
        dueTrue("the class has no package", FivesCourt.class.getPackageName().isEmpty());
        dueTrue("the class is of no other one", FivesCourt.class.getSuperclass() == Object.class);
        Check.due("interfaces of the class", FivesCourt.class.getInterfaces().length, 0);
    }

    /** "public FivesCourt();" and no other one. */
    private static void publicConstructor() {
        Constructor<?>[] all = FivesCourt.class.getDeclaredConstructors();
        Check.due("constructors", all.length, 1);
        dueTrue("the constructor is public", Modifier.isPublic(all[0].getModifiers()));
        Check.due("what it asks for", all[0].getParameterCount(), 0);
        Check.due("what it throws", all[0].getExceptionTypes().length, 0);
    }

    private static void publicMethods() {
        List<String> seen = new ArrayList<>();
        for (Method method : FivesCourt.class.getDeclaredMethods()) {
            if (!Modifier.isPrivate(method.getModifiers())) {
                seen.add(lineOf(method));
                dueTrue(method.getName() + "() is public", Modifier.isPublic(method.getModifiers()));
                dueTrue(method.getName() + "() is of an object", !Modifier.isStatic(method.getModifiers()));
            }
        }
        for (String line : METHODS) {
            dueTrue("the class has " + line, seen.contains(line));
        }
        Check.due("methods that can be seen", seen.size(), METHODS.length);
    }

    private static String lineOf(Method method) {
        return method.getReturnType().getSimpleName() + " " + method.getName()
                + "(" + namesOf(method.getParameterTypes()) + ")"
                + (method.getExceptionTypes().length == 0 ? "" : " throws " + namesOf(method.getExceptionTypes()));
    }

    private static String namesOf(Class<?>[] types) {
        List<String> names = new ArrayList<>();
        for (Class<?> type : types) {
            names.add(type.getSimpleName());
        }
        return String.join(", ", names);
    }

    /** No other public, protected or package-visible member, and no private method by a public one's name. */
    private static void nothingElseIsSeen() {
        for (Field field : FivesCourt.class.getDeclaredFields()) {
            dueTrue("the field " + field.getName() + " is private", Modifier.isPrivate(field.getModifiers()));
            if (Modifier.isStatic(field.getModifiers())) {
                dueTrue("the field " + field.getName() + " is final", Modifier.isFinal(field.getModifiers()));
                dueTrue("the field " + field.getName() + " is a constant", isConstant(field.getType()));
            }
        }
        for (Class<?> inside : FivesCourt.class.getDeclaredClasses()) {
            int modifiers = inside.getModifiers();
            dueTrue(inside + " is not seen", !Modifier.isPublic(modifiers) && !Modifier.isProtected(modifiers));
            dueTrue(inside + " is static", Modifier.isStatic(modifiers));
        }
        for (Method method : FivesCourt.class.getDeclaredMethods()) {
            if (Modifier.isPrivate(method.getModifiers())) {
                for (String line : METHODS) {
                    dueTrue("the name of " + method, !line.contains(" " + method.getName() + "("));
                }
            }
        }
    }

    /** By ../shared/LANGUAGE.md nothing static is kept but constants, so that no court can tell of another one. */
    private static boolean isConstant(Class<?> type) {
        return type.isPrimitive() || type == String.class || type.isArray() || type.isEnum();
    }

    // ---- a court is all its own

    /** Two courts played by turns, and a third one not at all, are as each one alone. */
    private static void courtsApart() {
        FivesCourt rally = new FivesCourt();
        FivesCourt tight = new FivesCourt();
        FivesCourt untouched = new FivesCourt();
        playOn(rally, -1, -2, 6);
        bringBothTo(tight, 10);
        Check.due("set(5)", tight.set(5), 15);
        Check.due("strike(8, ..)", rally.strike(8, 0, -2, 5), 0);
        playOn(tight, 0, -2, 0);
        Check.due("advise(8)", tight.advise(8), -1);
        FivesCourt tightAlone = broughtTo(10, 10);
        tightAlone.set(5);
        playOn(tightAlone, 0, -2, 0);
        Check.dueSame("a rally beside others", Seen.of(rally), Seen.of(played(-1, -2, 6, 8, 0, -2, 5)));
        Check.dueSame("a tight game beside others", Seen.of(tight), Seen.of(tightAlone));
        Check.dueSame("untouched beside others", Seen.of(untouched), Seen.of(new FivesCourt()));
    }

    // ---- README.md

    private static void readmeExample() {
        FivesCourt court = new FivesCourt();
        Check.due("serve(0, -2, 6)", court.serve(0, -2, 6), 0);
        Check.due("end(0)", court.end(0), 3);
        Check.due("end(1)", court.end(1), 23);
        Check.due("flight(8, 2)", court.flight(8, 2), 23);
        Check.due("flight(8, 6)", court.flight(8, 6), 1);
        Check.due("would(10, -2, -2, 4)", court.would(10, -2, -2, 4), 3);
        Check.due("advise(10)", court.advise(10), 0);
        Check.due("strike(10, -2, -2, 4)", court.strike(10, -2, -2, 4), 0);
        Check.due("leave()", court.leave(), 3);
        Check.due("count(0)", court.count(0), 1);
        Check.due("told(1, 0)", court.told(1, 0), 0);
        Check.dueDouble("mean()", court.mean(), 2.0);
    }
}
