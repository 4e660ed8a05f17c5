import java.lang.reflect.Constructor;
import java.lang.reflect.Executable;
import java.lang.reflect.Field;
import java.lang.reflect.Method;
import java.lang.reflect.Modifier;
import java.util.Arrays;
import java.util.Set;
import java.util.TreeSet;

/** "The public face" of the document, and rules 1 and 5 of LANGUAGE.md. */
public final class FaceTest {
    private static final String IAE = "java.lang.IllegalArgumentException";
    private static final String NSEE = "java.util.NoSuchElementException";

    public static void main(String[] args) {
        Check.sentence("public final class TimerWheels", FaceTest::theClassIsPublicAndFinal);
        Check.sentence("The public face", FaceTest::theFaceIsTheDocuments);
        Check.sentence("The public face", FaceTest::noOtherPublicMember);
        Check.sentence("LANGUAGE.md, rule 1", FaceTest::nothingElseCanBeSeen);
        Check.sentence("LANGUAGE.md, rule 1", FaceTest::noPrivateMethodHasAPublicName);
        Check.sentence("LANGUAGE.md, rule 5", FaceTest::staticFieldsAreFinal);
        Check.end("The public face");
    }

    private static void theClassIsPublicAndFinal() {
        String modifiers = Modifier.toString(TimerWheels.class.getModifiers());
        Check.same("modifiers of the class", modifiers, "public final");
        Check.same("package", TimerWheels.class.getPackageName(), "");
    }

    private static void theFaceIsTheDocuments() {
        Set<String> due = new TreeSet<>(Arrays.asList(
                "public TimerWheels()",
                "public int TimerWheels.set(int,long,int) throws " + IAE,
                "public long TimerWheels.drop(int) throws " + IAE + "," + NSEE,
                "public int TimerWheels.take() throws " + NSEE,
                "public long TimerWheels.least()",
                "public int TimerWheels.go(long) throws " + IAE,
                "public int TimerWheels.skip() throws " + NSEE,
                "public long TimerWheels.timer(int,int) throws " + IAE,
                "public long TimerWheels.count(int) throws " + IAE));
        Set<String> seen = new TreeSet<>();
        for (Constructor<?> c : TimerWheels.class.getDeclaredConstructors()) {
            addUnlessPrivate(seen, c, c.toGenericString());
        }
        for (Method m : TimerWheels.class.getDeclaredMethods()) {
            addUnlessPrivate(seen, m, m.toGenericString());
        }
        Check.same("the face", seen.toString(), due.toString());
    }

    private static void addUnlessPrivate(Set<String> seen, Executable member, String text) {
        if (!Modifier.isPrivate(member.getModifiers())) {
            seen.add(text);
        }
    }

    private static void nothingElseCanBeSeen() {
        for (Field f : TimerWheels.class.getDeclaredFields()) {
            Check.same(f + " is private", Modifier.isPrivate(f.getModifiers()) ? 1 : 0, 1);
        }
        Check.same("superclass", TimerWheels.class.getSuperclass().getName(), "java.lang.Object");
        Check.same("interfaces", TimerWheels.class.getInterfaces().length, 0);
        for (Class<?> inside : TimerWheels.class.getDeclaredClasses()) {
            int modifiers = inside.getModifiers();
            boolean shown = Modifier.isPublic(modifiers) || Modifier.isProtected(modifiers);
            Check.same(inside + " is public or protected", shown ? 1 : 0, 0);
        }
    }

    /** What a caller can name: the eight methods, and what every object has. */
    private static void noOtherPublicMember() {
        Set<String> seen = new TreeSet<>();
        for (Method m : TimerWheels.class.getMethods()) {
            if (m.getDeclaringClass() != Object.class) {
                seen.add(m.getName());
            }
        }
        Check.same("public methods", seen.toString(),
                "[count, drop, go, least, set, skip, take, timer]");
        Check.same("public constructors", TimerWheels.class.getConstructors().length, 1);
        Check.same("public fields", TimerWheels.class.getFields().length, 0);
        Check.same("public classes inside", TimerWheels.class.getClasses().length, 0);
    }

    private static void noPrivateMethodHasAPublicName() {
        Set<String> names = new TreeSet<>();
        for (Method m : TimerWheels.class.getMethods()) {
            names.add(m.getName());
        }
        for (Method m : TimerWheels.class.getDeclaredMethods()) {
            boolean hides = Modifier.isPrivate(m.getModifiers()) && names.contains(m.getName());
            Check.same(m + " bears a public name", hides ? 1 : 0, 0);
        }
    }

    private static void staticFieldsAreFinal() {
        for (Field f : TimerWheels.class.getDeclaredFields()) {
            if (Modifier.isStatic(f.getModifiers())) {
                Check.same(f + " is final", Modifier.isFinal(f.getModifiers()) ? 1 : 0, 1);
            }
        }
    }
}
