import java.lang.reflect.Constructor;
import java.lang.reflect.Field;
import java.lang.reflect.Method;
import java.lang.reflect.Modifier;
import java.util.Set;
import java.util.TreeSet;

/** The public face of the document, and nothing else of the class to be seen from outside. */
public final class FaceTest {
    private static final String FACE = """
            int feed(int, int, int, int, int)
            int province(int) throws IllegalArgumentException
            int fault()
            int count(int) throws NoSuchElementException
            int town(int, int) throws NoSuchElementException
            int crate(int, int) throws NoSuchElementException
            int days(int)
            int send(int, int) throws NoSuchElementException
            int open(int) throws NoSuchElementException
            boolean cat(int, boolean) throws NoSuchElementException
            int mix(int, int) throws NoSuchElementException
            int undo()
            int then(int, int, int) throws NoSuchElementException, IllegalArgumentException
            int even(int) throws NoSuchElementException
            int out(int) throws NoSuchElementException
            int luckiest(int) throws IllegalArgumentException
            int far(int, int) throws NoSuchElementException
            int leak(int, int) throws NoSuchElementException
            int sending(int, int) throws NoSuchElementException, IllegalArgumentException
            int hold(int, int) throws NoSuchElementException
            int thrower(int, int, int, int) throws IllegalArgumentException
            int stop(int, int, int, int) throws NoSuchElementException, IllegalArgumentException
            int see(int, int, int) throws NoSuchElementException
            void forget()
            int opened(int) throws NoSuchElementException
            int next(int) throws NoSuchElementException
            int pooled(int) throws IllegalArgumentException
            int missed()
            int game(int, int, int) throws NoSuchElementException, IllegalArgumentException
            int years(int, int, int) throws NoSuchElementException, IllegalArgumentException
            int thief(int, int) throws NoSuchElementException, IllegalArgumentException
            int row(int, int, int) throws NoSuchElementException
            int hub()
            boolean bridge(int) throws NoSuchElementException
            int streak(int, int) throws NoSuchElementException, IllegalArgumentException
            int day(int, int) throws NoSuchElementException, IllegalArgumentException
            int level(int) throws NoSuchElementException
            int lend(int) throws NoSuchElementException
            int spoilt()
            void image()
            boolean restore()
            """;

    public static void main(String[] args) {
        Set<String> due = new TreeSet<>(FACE.lines().toList());
        Set<String> names = new TreeSet<>();
        Set<String> found = new TreeSet<>();
        for (Method m : LuckCrates.class.getDeclaredMethods()) {
            if (Modifier.isPublic(m.getModifiers())) {
                found.add(told(m));
                names.add(m.getName());
            }
        }
        Check.due("methods", 41, due.size());
        for (String line : due) {
            Check.due("has " + line, true, found.contains(line));
        }
        for (String line : found) {
            Check.due("may have " + line, true, due.contains(line));
        }
        nothingElse(names);
        Check.due("NONE", -1, LuckCrates.NONE);
        Check.end();
    }

    private static String told(Method m) {
        StringBuilder line = new StringBuilder(m.getReturnType().getSimpleName()).append(' ').append(m.getName());
        StringBuilder inside = new StringBuilder();
        for (Class<?> type : m.getParameterTypes()) {
            inside.append(inside.length() == 0 ? "" : ", ").append(type.getSimpleName());
        }
        line.append('(').append(inside).append(')');
        String sign = " throws ";
        for (Class<?> type : m.getExceptionTypes()) {
            line.append(sign).append(type.getSimpleName());
            sign = ", ";
        }
        return line.toString();
    }

    private static void nothingElse(Set<String> names) {
        Class<?> face = LuckCrates.class;
        Check.due("a public final class", Modifier.PUBLIC | Modifier.FINAL, face.getModifiers());
        Constructor<?>[] constructors = face.getDeclaredConstructors();
        Check.due("one constructor", 1, constructors.length);
        Check.due("a public one", Modifier.PUBLIC, constructors[0].getModifiers());
        Check.due("without parameters", 0, constructors[0].getParameterCount());
        for (Method m : face.getDeclaredMethods()) {
            boolean isPrivate = Modifier.isPrivate(m.getModifiers());
            Check.due(m.getName() + " is of the face or private", true, Modifier.isPublic(m.getModifiers()) || isPrivate);
            Check.due(m.getName() + " is not both", false, isPrivate && names.contains(m.getName()));
        }
        for (Field f : face.getDeclaredFields()) {
            boolean none = f.getName().equals("NONE");
            Check.due(f.getName() + " is private", !none, Modifier.isPrivate(f.getModifiers()));
            Check.due(f.getName() + " is final if static", true,
                    !Modifier.isStatic(f.getModifiers()) || Modifier.isFinal(f.getModifiers()));
        }
        for (Class<?> inside : face.getDeclaredClasses()) {
            Check.due(inside.getName() + " is static", true, Modifier.isStatic(inside.getModifiers()));
            Check.due(inside.getName() + " is not public", false, Modifier.isPublic(inside.getModifiers()));
            for (Method m : inside.getDeclaredMethods()) {
                Check.due(inside.getName() + "." + m.getName() + " is no name of the face", false,
                        names.contains(m.getName()));
            }
        }
    }
}
