import java.lang.reflect.Constructor;
import java.lang.reflect.Executable;
import java.lang.reflect.Field;
import java.lang.reflect.Method;
import java.lang.reflect.Modifier;
import java.util.Arrays;
import java.util.Set;
import java.util.TreeSet;
import java.util.stream.Collectors;

/** The public face is the one of the document, and nothing else of the class can be seen (LANGUAGE.md, rule 1). */
public final class FaceTest {
    private static final String FACE = """
        MailMerge()
        int clear()
        int append(int) IllegalArgumentException IllegalStateException
        int addRecord(int, int) IllegalArgumentException IllegalStateException
        int removeRecord(int) IndexOutOfBoundsException
        int moveRecord(int, int) IndexOutOfBoundsException
        int sort(int, boolean) IndexOutOfBoundsException
        int setField(int, int) IndexOutOfBoundsException IllegalArgumentException
        int setNumber(int, boolean, int) IndexOutOfBoundsException IllegalArgumentException
        int field(int, int, int) IndexOutOfBoundsException NoSuchElementException
        int record(int, int) IndexOutOfBoundsException IllegalArgumentException
        int setTemplate() IllegalArgumentException
        int errorPosition() NoSuchElementException
        int template(int) IllegalArgumentException
        int item(int, int) NoSuchElementException IllegalArgumentException
        boolean counts(int, int) IndexOutOfBoundsException NoSuchElementException
        int setHome() IllegalArgumentException
        int setKeys(int) IllegalArgumentException
        int setPolicy(int) IllegalArgumentException
        boolean exclude(int, boolean) IndexOutOfBoundsException
        int setLimit(int) IllegalArgumentException
        int setting(int) IllegalArgumentException
        int run() IllegalStateException
        int reason(int) IllegalStateException IndexOutOfBoundsException
        int reasons(int) IllegalStateException IllegalArgumentException
        int letter(int, int) IllegalStateException IndexOutOfBoundsException UnsupportedOperationException NoSuchElementException
        int chain(int, int) IllegalStateException IndexOutOfBoundsException UnsupportedOperationException NoSuchElementException
        int kept(int) IndexOutOfBoundsException UnsupportedOperationException
        int preview(int) IndexOutOfBoundsException
        double meanLength() IllegalStateException ArithmeticException
        float share() IllegalStateException
        boolean isOrderFree()
        int undo() IllegalStateException
        int snapshot()
        int restore() IllegalStateException
        """;

    public static void main(String[] args) {
        Checks checks = new Checks("FaceTest");
        Set<String> seen = new TreeSet<>();
        Set<String> publicNames = new TreeSet<>();
        for (Constructor<?> each : MailMerge.class.getDeclaredConstructors()) {
            if (!Modifier.isPrivate(each.getModifiers())) {
                seen.add(described("MailMerge", each));
            }
        }
        for (Method each : MailMerge.class.getDeclaredMethods()) {
            if (!Modifier.isPrivate(each.getModifiers())) {
                seen.add(described(each.getReturnType() + " " + each.getName(), each));
                publicNames.add(each.getName());
            }
        }
        checks.same("the face", new TreeSet<>(FACE.lines().toList()), seen);
        checks.same("the class is public and final", Modifier.PUBLIC | Modifier.FINAL, MailMerge.class.getModifiers());
        for (Field each : MailMerge.class.getDeclaredFields()) {
            checks.same(each.getName() + " is private", true, Modifier.isPrivate(each.getModifiers()));
        }
        for (Method each : MailMerge.class.getDeclaredMethods()) {
            boolean isPrivate = Modifier.isPrivate(each.getModifiers());
            checks.same(each.getName() + " bears no public name", false,
                    isPrivate && publicNames.contains(each.getName()));
        }
        for (Class<?> each : MailMerge.class.getDeclaredClasses()) {
            checks.same(each.getName() + " is static and not public", true,
                    Modifier.isStatic(each.getModifiers()) && !Modifier.isPublic(each.getModifiers()));
            for (Method inner : each.getDeclaredMethods()) {
                checks.same(inner + " bears no public name", false, publicNames.contains(inner.getName()));
            }
        }
        checks.end();
    }

    private static String described(String name, Executable each) {
        String parameters = Arrays.stream(each.getParameterTypes()).map(Class::toString)
                .collect(Collectors.joining(", "));
        String exceptions = Arrays.stream(each.getExceptionTypes()).map(type -> " " + type.getSimpleName())
                .collect(Collectors.joining());
        return name + "(" + parameters + ")" + exceptions;
    }
}
