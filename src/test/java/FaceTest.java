import java.lang.reflect.Executable;
import java.lang.reflect.Field;
import java.lang.reflect.Method;
import java.lang.reflect.Modifier;
import java.util.Set;
import java.util.TreeSet;

/** The class has the face of the document and nothing beside it (rules 1 and 5 of LANGUAGE.md). */
public final class FaceTest {
    private static final String[] FACE = {
        "public static final int NONE",
        "public CertifiedBooks()",
        "public int draw(int, int) throws IndexOutOfBounds, IllegalArgument, IllegalState",
        "public int add(int, int, int) throws IndexOutOfBounds, IllegalArgument, IllegalState",
        "public void certify(int, int) throws IndexOutOfBounds, UnsupportedOperation, IllegalState",
        "public boolean grant(int, int, int, boolean) throws IndexOutOfBounds, UnsupportedOperation",
        "public long floor(int, int, long) throws IndexOutOfBounds, UnsupportedOperation, IllegalArgument",
        "public int ask(int, int, long) throws IndexOutOfBounds, UnsupportedOperation, IllegalArgument, IllegalState",
        "public int approve(int, int) throws IndexOutOfBounds, UnsupportedOperation, IllegalState",
        "public void withdraw(int, int) throws IndexOutOfBounds, UnsupportedOperation",
        "public int reverse(int, int) throws IndexOutOfBounds, UnsupportedOperation, IllegalState",
        "public long tamper(int, long) throws IndexOutOfBounds, IllegalArgument, IllegalState",
        "public boolean sound()",
        "public int restore(int) throws IndexOutOfBounds, UnsupportedOperation",
        "public long balance(int) throws IndexOutOfBounds",
        "public long balanceAt(int, int) throws IndexOutOfBounds",
        "public int entries()",
        "public int entry(int, int) throws IndexOutOfBounds",
        "public long amount(int) throws IndexOutOfBounds",
        "public int requested(int) throws IndexOutOfBounds",
        "public boolean mayRun(int, int)",
    };

    public static void main(String[] args) {
        Class<CertifiedBooks> face = CertifiedBooks.class;
        Check.compare("public and final", Modifier.PUBLIC | Modifier.FINAL, face.getModifiers());
        Check.compare("the face", new TreeSet<>(Set.of(FACE)), visibleMembers(face));
        Check.compare("private methods of public names", Set.of(), privateMethodsOfPublicNames(face));
        checkStaticFields(face);
        for (Class<?> inside : face.getDeclaredClasses()) {
            Check.compare(inside + " is static", true, Modifier.isStatic(inside.getModifiers()));
            Check.compare(inside + " is public", false, Modifier.isPublic(inside.getModifiers()));
            checkStaticFields(inside);
        }
        Check.end();
    }

    private static Set<String> visibleMembers(Class<?> face) {
        Set<String> members = new TreeSet<>();
        for (Field field : face.getDeclaredFields()) {
            if (!Modifier.isPrivate(field.getModifiers())) {
                members.add(Modifier.toString(field.getModifiers()) + " " + field.getType() + " " + field.getName());
            }
        }
        for (Executable constructor : face.getDeclaredConstructors()) {
            members.add(signature(constructor, ""));
        }
        for (Method method : face.getDeclaredMethods()) {
            if (!Modifier.isPrivate(method.getModifiers())) {
                members.add(signature(method, method.getReturnType() + " "));
            }
        }
        return members;
    }

    private static String signature(Executable member, String answer) {
        String parameters = names(member.getParameterTypes());
        String thrown = names(member.getExceptionTypes()).replace("Exception", "");
        return Modifier.toString(member.getModifiers()) + " " + answer + member.getName() + "(" + parameters + ")"
                + (thrown.isEmpty() ? "" : " throws " + thrown);
    }

    private static String names(Class<?>[] types) {
        StringBuilder names = new StringBuilder();
        for (Class<?> type : types) {
            names.append(names.length() == 0 ? "" : ", ").append(type.getSimpleName());
        }
        return names.toString();
    }

    private static Set<String> privateMethodsOfPublicNames(Class<?> face) {
        Set<String> names = new TreeSet<>();
        for (Method method : face.getMethods()) {
            names.add(method.getName());
        }
        Set<String> hidden = new TreeSet<>();
        for (Class<?> inside : face.getDeclaredClasses()) {
            collectPrivateNames(inside, hidden);
        }
        collectPrivateNames(face, hidden);
        hidden.retainAll(names);
        return hidden;
    }

    private static void collectPrivateNames(Class<?> type, Set<String> names) {
        for (Method method : type.getDeclaredMethods()) {
            if (Modifier.isPrivate(method.getModifiers())) {
                names.add(method.getName());
            }
        }
    }

    private static void checkStaticFields(Class<?> type) {
        for (Field field : type.getDeclaredFields()) {
            int modifiers = field.getModifiers();
            Check.compare(field + " is final if static", true,
                    !Modifier.isStatic(modifiers) || Modifier.isFinal(modifiers));
        }
    }
}
