import java.lang.reflect.Constructor;
import java.lang.reflect.Field;
import java.lang.reflect.Method;
import java.lang.reflect.Modifier;
import java.util.ArrayList;
import java.util.HashSet;
import java.util.List;
import java.util.Set;
import java.util.TreeSet;

/** The public face, and rules 1, 2, 5 and 11 of LANGUAGE.md as far as the compiled class shows them. */
public final class FaceTest {
    private static final String FACE = """
            boolean isClosed(int) throws IndexOutOfBoundsException
            int act(int,int) throws IllegalArgumentException,IndexOutOfBoundsException,IllegalStateException
            int addNode(boolean,boolean) throws IllegalStateException
            int addSwitch(int,int,boolean) throws IndexOutOfBoundsException,IllegalArgumentException,IllegalStateException
            int carryOut(int) throws IllegalArgumentException,IllegalStateException
            int check() throws\s
            int earthed() throws\s
            int erase() throws\s
            int handBack(int) throws IndexOutOfBoundsException,IllegalStateException
            int held() throws\s
            int live() throws\s
            int loaded() throws\s
            int log() throws\s
            int logged(int) throws IndexOutOfBoundsException
            int nodes() throws\s
            int part(int) throws IndexOutOfBoundsException
            int parts() throws\s
            int permit(int) throws IllegalArgumentException,IllegalStateException
            int reason(int,int) throws IllegalArgumentException,IndexOutOfBoundsException
            int switches() throws\s
            int takeBack() throws IllegalStateException
            int times(int,int) throws IllegalArgumentException,IndexOutOfBoundsException
            int toLive(int) throws IndexOutOfBoundsException,NoSuchElementException
            int write(int,int) throws IllegalArgumentException,IndexOutOfBoundsException,IllegalStateException
            int writeBack() throws\s
            """;

    private static final Expect expect = new Expect("FaceTest");

    public static void main(String[] args) {
        theClassIsPublicAndFinal();
        thePublicMethodsAreThoseOfTheDocument();
        nothingElseCanBeSeen();
        noPrivateMethodBearsAPublicName();
        classesInsideAreStatic();
        methodsTakeFewParameters();
        expect.end();
    }

    private static void theClassIsPublicAndFinal() {
        int signs = Switchlog.class.getModifiers();
        expect.due("public", true, Modifier.isPublic(signs));
        expect.due("final", true, Modifier.isFinal(signs));
        expect.due("constructors", 1, Switchlog.class.getDeclaredConstructors().length);
        Constructor<?> made = Switchlog.class.getDeclaredConstructors()[0];
        expect.due("its parameters", 0, made.getParameterCount());
        expect.due("public constructor", true, Modifier.isPublic(made.getModifiers()));
    }

    private static void thePublicMethodsAreThoseOfTheDocument() {
        Set<String> faces = new TreeSet<>();
        for (Method method : Switchlog.class.getDeclaredMethods()) {
            if (Modifier.isPublic(method.getModifiers())) {
                faces.add(method.getReturnType().getSimpleName() + " " + method.getName()
                        + "(" + names(method.getParameterTypes()) + ") throws " + names(method.getExceptionTypes()));
                expect.due("static " + method.getName(), false, Modifier.isStatic(method.getModifiers()));
            }
        }
        expect.due("public methods", FACE, String.join("\n", faces) + "\n");
    }

    private static String names(Class<?>[] types) {
        List<String> names = new ArrayList<>();
        for (Class<?> type : types) {
            names.add(type.getSimpleName());
        }
        return String.join(",", names);
    }

    private static void nothingElseCanBeSeen() {
        for (Method method : Switchlog.class.getDeclaredMethods()) {
            int signs = method.getModifiers();
            expect.due(method.getName(), true, Modifier.isPublic(signs) || Modifier.isPrivate(signs));
        }
        for (Field field : Switchlog.class.getDeclaredFields()) {
            int signs = field.getModifiers();
            expect.due("private " + field.getName(), true, Modifier.isPrivate(signs));
            expect.due("static only if final " + field.getName(), true,
                    !Modifier.isStatic(signs) || Modifier.isFinal(signs));
        }
    }

    private static void noPrivateMethodBearsAPublicName() {
        Set<String> open = new HashSet<>();
        for (Method method : Switchlog.class.getMethods()) {
            open.add(method.getName());
        }
        for (Class<?> type : withClassesInside()) {
            for (Method method : type.getDeclaredMethods()) {
                boolean own = Modifier.isPublic(method.getModifiers()) || !open.contains(method.getName());
                expect.due(type.getSimpleName() + "." + method.getName(), true, own);
            }
        }
    }

    private static List<Class<?>> withClassesInside() {
        List<Class<?>> types = new ArrayList<>(List.of(Switchlog.class.getDeclaredClasses()));
        types.add(Switchlog.class);
        return types;
    }

    private static void classesInsideAreStatic() {
        for (Class<?> type : Switchlog.class.getDeclaredClasses()) {
            int signs = type.getModifiers();
            expect.due("static " + type.getSimpleName(), true, Modifier.isStatic(signs));
            expect.due("not public " + type.getSimpleName(), false, Modifier.isPublic(signs));
        }
        expect.due("at most twelve classes", true, withClassesInside().size() <= 12);
    }

    private static void methodsTakeFewParameters() {
        for (Class<?> type : withClassesInside()) {
            expect.due("at most twenty fields beside constants in " + type.getSimpleName(), true,
                    fieldsOf(type) <= 20);
            for (Method method : type.getDeclaredMethods()) {
                expect.due("at most seven parameters of " + method.getName(), true, method.getParameterCount() <= 7);
            }
        }
    }

    private static int fieldsOf(Class<?> type) {
        int fields = 0;
        for (Field field : type.getDeclaredFields()) {
            fields += Modifier.isStatic(field.getModifiers()) ? 0 : 1;
        }
        return fields;
    }
}
