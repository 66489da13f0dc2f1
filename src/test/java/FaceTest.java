import java.lang.reflect.Constructor;
import java.lang.reflect.Field;
import java.lang.reflect.Method;
import java.lang.reflect.Modifier;
import java.util.Set;
import java.util.TreeSet;

/** The public face: the document's constants, constructor and methods, and no other. */
public final class FaceTest {
    private static final Expect expect = new Expect("FaceTest");
    private static final String[] FACE = {
        "append(int)", "clearText()", "errorPosition()", "load()", "about(int)", "cell(int,int)",
        "channel(int,int)", "chain(int,int)", "poke(int,int)", "order(int,int,int,int,int)", "own(int,int,int)",
        "start(int,int)", "stop(int)", "run(int)", "undo()", "ends(int)", "endOf(int)", "later(int,int)",
        "contested(int)", "firstEdit()", "alone(int)", "runScript(int,long)", "simulate(long,int)", "save(int)",
        "restore(int)"};

    public static void main(String[] args) {
        constants();
        methods();
        fieldsAndConstructors();
        expect.finish();
    }

    private static void constants() {
        expect.that("NONE", OrderChains.NONE, -9);
    }

    private static void methods() {
        Set<String> due = new TreeSet<>(Set.of(FACE));
        Set<String> names = new TreeSet<>();
        for (String signature : FACE) {
            names.add(signature.substring(0, signature.indexOf('(')));
        }
        for (Method method : OrderChains.class.getDeclaredMethods()) {
            String signature = signature(method);
            if (Modifier.isPublic(method.getModifiers())) {
                expect.that("method of the face " + signature, due.remove(signature) ? 1 : 0, 1);
                expect.that("static " + signature, Modifier.isStatic(method.getModifiers()) ? 1 : 0, 0);
                expect.that("an int from " + signature, method.getReturnType() == int.class ? 1 : 0, 1);
            } else {
                expect.that("private " + signature, Modifier.isPrivate(method.getModifiers()) ? 1 : 0, 1);
                expect.that("name of the face " + signature, names.contains(method.getName()) ? 1 : 0, 0);
            }
        }
        expect.that("missing " + due, due.size(), 0);
        for (Class<?> inside : OrderChains.class.getDeclaredClasses()) {
            for (Method method : inside.getDeclaredMethods()) {
                expect.that("name of the face inside " + signature(method), names.contains(method.getName()) ? 1 : 0, 0);
            }
        }
    }

    private static String signature(Method method) {
        StringBuilder all = new StringBuilder(method.getName()).append('(');
        Class<?>[] types = method.getParameterTypes();
        for (int i = 0; i < types.length; i++) {
            all.append(i == 0 ? "" : ",").append(types[i].getSimpleName());
        }
        return all.append(')').toString();
    }

    private static void fieldsAndConstructors() {
        expect.that("final", Modifier.isFinal(OrderChains.class.getModifiers()) ? 1 : 0, 1);
        for (Field field : OrderChains.class.getDeclaredFields()) {
            boolean isPrivate = Modifier.isPrivate(field.getModifiers());
            expect.that("private " + field.getName(), isPrivate ? 1 : 0, field.getName().equals("NONE") ? 0 : 1);
        }
        Constructor<?>[] constructors = OrderChains.class.getDeclaredConstructors();
        expect.that("constructors", constructors.length, 1);
        expect.that("their parameters", constructors[0].getParameterCount(), 0);
        expect.that("public", Modifier.isPublic(constructors[0].getModifiers()) ? 1 : 0, 1);
    }
}
