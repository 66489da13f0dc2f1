import java.lang.reflect.Constructor;
import java.lang.reflect.Field;
import java.lang.reflect.Method;
import java.lang.reflect.Modifier;
import java.util.Set;
import java.util.TreeSet;

/** The public face: the document's constants, constructor and methods, and no other. */
public final class FaceTest {
    private static final Expect expect = new Expect("FaceTest");
    private static final int MOST_PARAMETERS = 7;
    private static final int MOST_FIELDS = 20;
    /** Behind each method its exceptions: I IndexOutOfBounds-, A IllegalArgument-, S IllegalStateException. */
    private static final String[] FACE = {
        "append(int)AS", "clearText()", "errorPosition()", "load()S", "about(int)A", "cell(int,int)IA",
        "channel(int,int)IA", "chain(int,int)IA", "poke(int,int)IA", "order(int,int,int,int,int)IA",
        "own(int,int,int)IA", "start(int,int)I", "stop(int)IS", "run(int)AS", "undo()S", "ends(int)I", "endOf(int)I",
        "later(int,int)IA", "contested(int)A", "firstEdit()", "alone(int)I", "runScript(int,long)A",
        "simulate(long,int)A", "save(int)I", "restore(int)IS"};

    public static void main(String[] args) {
        constants();
        methods();
        fieldsAndConstructors();
        sizes(OrderChains.class);
        for (Class<?> inside : OrderChains.class.getDeclaredClasses()) {
            sizes(inside);
        }
        expect.finish();
    }

    private static void constants() {
        expect.that("NONE", OrderChains.NONE, -9);
    }

    private static void methods() {
        Set<String> due = new TreeSet<>(Set.of(FACE));
        Set<String> names = new TreeSet<>();
        for (String signature : FACE) {
            names.add(signature.substring(0, signature.indexOf('(')));
        }
        for (Method method : OrderChains.class.getDeclaredMethods()) {
            String signature = signature(method);
            if (Modifier.isPublic(method.getModifiers())) {
                expect.that("method of the face " + signature, due.remove(signature) ? 1 : 0, 1);
                expect.that("static " + signature, Modifier.isStatic(method.getModifiers()) ? 1 : 0, 0);
                expect.that("an int from " + signature, method.getReturnType() == int.class ? 1 : 0, 1);
            } else {
                expect.that("private " + signature, Modifier.isPrivate(method.getModifiers()) ? 1 : 0, 1);
                expect.that("name of the face " + signature, names.contains(method.getName()) ? 1 : 0, 0);
            }
        }
        expect.that("missing " + due, due.size(), 0);
        for (Class<?> inside : OrderChains.class.getDeclaredClasses()) {
            for (Method method : inside.getDeclaredMethods()) {
                expect.that("name of the face inside " + signature(method), names.contains(method.getName()) ? 1 : 0, 0);
            }
        }
    }

    private static String signature(Method method) {
        StringBuilder all = new StringBuilder(method.getName()).append('(');
        Class<?>[] types = method.getParameterTypes();
        for (int i = 0; i < types.length; i++) {
            all.append(i == 0 ? "" : ",").append(types[i].getSimpleName());
        }
        all.append(')');
        for (Class<?> exception : method.getExceptionTypes()) {
            all.append(letter(exception));
        }
        return all.toString();
    }

    private static char letter(Class<?> exception) {
        return exception == Engines.INDEX ? 'I' : exception == Engines.ARGUMENT ? 'A'
            : exception == Engines.STATE ? 'S' : '?';
    }

    /** Fields beside the constants, which are final, and parameters: the language allows a few. */
    private static void sizes(Class<?> type) {
        int fields = 0;
        for (Field field : type.getDeclaredFields()) {
            boolean isStatic = Modifier.isStatic(field.getModifiers());
            fields += isStatic ? 0 : 1;
            boolean isConstant = isStatic && Modifier.isFinal(field.getModifiers());
            expect.that("final " + type + " " + field.getName(), isConstant ? 1 : 0, isStatic ? 1 : 0);
        }
        expect.that("many fields in " + type, fields > MOST_FIELDS ? 1 : 0, 0);
        for (Method method : type.getDeclaredMethods()) {
            boolean many = method.getParameterCount() > MOST_PARAMETERS;
            expect.that("many parameters of " + signature(method), many ? 1 : 0, 0);
        }
    }

    private static void fieldsAndConstructors() {
        expect.that("final", Modifier.isFinal(OrderChains.class.getModifiers()) ? 1 : 0, 1);
        for (Field field : OrderChains.class.getDeclaredFields()) {
            boolean isPrivate = Modifier.isPrivate(field.getModifiers());
            expect.that("private " + field.getName(), isPrivate ? 1 : 0, field.getName().equals("NONE") ? 0 : 1);
        }
        Constructor<?>[] constructors = OrderChains.class.getDeclaredConstructors();
        expect.that("constructors", constructors.length, 1);
        expect.that("their parameters", constructors[0].getParameterCount(), 0);
        expect.that("public", Modifier.isPublic(constructors[0].getModifiers()) ? 1 : 0, 1);
    }
}
