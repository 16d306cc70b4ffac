import java.lang.management.ManagementFactory;
import java.lang.reflect.Constructor;
import java.lang.reflect.Field;
import java.lang.reflect.Method;
import java.lang.reflect.Modifier;
import java.util.Arrays;
import java.util.HashSet;
import java.util.Set;
import java.util.TreeSet;

/** The face as the document tells it, and what of ../shared/LANGUAGE.md can be seen in the compiled classes. */
public final class FaceTest {
    private static final Checks c = new Checks("FaceTest");

    private static final String[] FACE = {
        "int life(int)", "int day(int,int)", "int fact(int,int,int,boolean)", "int note(int,int)", "int ahead(int,int)",
        "int at(int,int)", "int tear(int)", "int order(int)", "int type(int)", "int clear()", "int read()",
        "int lived(int)", "int knows(int)", "int reads(int)", "int missing(int)", "int first(int)", "int cards(int)",
        "int hang(int)", "int must(int)", "int told(int)", "int notes(int)", "int mean()", "int best()",
        "int when(int,int)", "int diary(int,int)", "int torn(int)", "int promise(int,int,int)", "int other(int)",
        "int two(int)", "int settle(int,int)", "int game(int)", "int live()", "int undo()", "int sofar(int)",
        "long part(int)", "int image(int)", "int from(int)", "int status(int)", "int count(int)", "long digest()",
    };

    public static void main(String[] args) {
        methodsOfTheFace();
        constantsOfTheFace();
        theConstructor();
        classesInside();
        parametersAndFields();
        nothingIsMadeByACall();
        c.end();
    }

    private static String signature(Method m) {
        StringBuilder s = new StringBuilder(m.getReturnType().getName()).append(' ').append(m.getName()).append('(');
        for (Class<?> type : m.getParameterTypes()) {
            s.append(s.charAt(s.length() - 1) == '(' ? "" : ",").append(type.getName());
        }
        return s.append(')').toString();
    }

    private static void due(String what, Object got, Object want) {
        c.due(what + ": " + got + " for " + want, got.equals(want) ? 1 : 0, 1);
    }

    private static void methodsOfTheFace() {
        Set<String> found = new TreeSet<>();
        Set<String> names = new HashSet<>();
        for (Method m : ShuffledDays.class.getDeclaredMethods()) {
            if (!Modifier.isPrivate(m.getModifiers())) {
                due(m.getName() + " is public and no more", Modifier.toString(m.getModifiers()), "public");
                found.add(signature(m));
                names.add(m.getName());
            }
        }
        due("methods", found, new TreeSet<>(Arrays.asList(FACE)));
        for (Class<?> of : all()) {
            for (Method m : of.getDeclaredMethods()) {
                boolean ofTheFace = of == ShuffledDays.class && Modifier.isPublic(m.getModifiers());
                c.due(of.getName() + "." + m.getName() + " bears a name of the face",
                    !ofTheFace && names.contains(m.getName()) ? 1 : 0, 0);
            }
        }
    }

    private static void constantsOfTheFace() {
        Set<String> found = new TreeSet<>();
        for (Field f : ShuffledDays.class.getDeclaredFields()) {
            if (!Modifier.isPrivate(f.getModifiers())) {
                found.add(Modifier.toString(f.getModifiers()) + " " + f.getType() + " " + f.getName());
            }
        }
        due("constants", found, new TreeSet<>(Arrays.asList("public static final int NONE",
            "public static final int BAD", "public static final int NO", "public static final int FULL")));
        c.due("NONE", ShuffledDays.NONE, -1);
        c.due("BAD", ShuffledDays.BAD, -2);
        c.due("NO", ShuffledDays.NO, -3);
        c.due("FULL", ShuffledDays.FULL, -4);
    }

    private static void theConstructor() {
        Constructor<?>[] found = ShuffledDays.class.getDeclaredConstructors();
        c.due("constructors", found.length, 1);
        due("it is public", Modifier.toString(found[0].getModifiers()), "public");
        c.due("its parameters", found[0].getParameterCount(), 0);
        due("the class", Modifier.toString(ShuffledDays.class.getModifiers()), "public final");
        due("no package", ShuffledDays.class.getPackageName(), "");
        due("under nothing", ShuffledDays.class.getSuperclass(), Object.class);
    }

    private static Class<?>[] all() {
        Class<?>[] inside = ShuffledDays.class.getDeclaredClasses();
        Class<?>[] all = Arrays.copyOf(inside, inside.length + 1);
        all[inside.length] = ShuffledDays.class;
        return all;
    }

    private static void classesInside() {
        c.due("over twelve classes", all().length > 12 ? 1 : 0, 0);
        for (Class<?> of : ShuffledDays.class.getDeclaredClasses()) {
            int is = of.getModifiers();
            c.due(of.getName() + " is static", Modifier.isStatic(is) ? 1 : 0, 1);
            c.due(of.getName() + " is neither public nor protected", Modifier.isPublic(is) || Modifier.isProtected(is) ? 1 : 0, 0);
            c.due(of.getName() + " has none inside", of.getDeclaredClasses().length, 0);
        }
    }

    private static void parametersAndFields() {
        for (Class<?> of : all()) {
            int fields = 0;
            for (Field f : of.getDeclaredFields()) {
                if (!Modifier.isStatic(f.getModifiers())) {
                    fields++;
                } else {
                    c.due(of.getName() + "." + f.getName() + " is final", Modifier.isFinal(f.getModifiers()) ? 1 : 0, 1);
                }
            }
            c.due(of.getName() + " has more than twenty fields", fields > 20 ? 1 : 0, 0);
            for (Method m : of.getDeclaredMethods()) {
                c.due(of.getName() + "." + m.getName() + " takes more than seven", m.getParameterCount() > 7 ? 1 : 0, 0);
            }
        }
    }

    private static long allocated() {
        return ((com.sun.management.ThreadMXBean) ManagementFactory.getThreadMXBean())
            .getThreadAllocatedBytes(Thread.currentThread().getId());
    }

    /** All calls of a run live in one room: a hundred and more may not take what one list would. */
    private static void nothingIsMadeByACall() {
        ShuffledDays x = State.full(7).make();
        everyCall(x);
        allocated();
        long before = allocated();
        for (int i = 0; i < 3; i++) {
            everyCall(x);
        }
        long made = allocated() - before;
        c.due(made + " bytes made by these calls are more than what is asked for", made > 4096 ? 1 : 0, 0);
    }

    private static void everyCall(ShuffledDays x) {
        x.life(7);
        x.day(6, 5);
        x.fact(0, 1, 0, true);
        x.fact(5, 0, 0, true);
        x.note(0, 0);
        x.ahead(0, 1);
        x.at(2, 2);
        x.order(1234);
        x.other(4321);
        x.diary(0, 0);
        x.told(7);
        x.lived(0);
        x.knows(1);
        x.reads(1);
        x.missing(1);
        x.first(0);
        x.cards(1);
        x.hang(-1);
        x.must(1);
        x.notes(0);
        x.mean();
        x.best();
        x.when(1, 0);
        x.torn(0);
        x.promise(0, 0, 1);
        x.two(1);
        x.settle(0, 0);
        x.game(0);
        x.live();
        x.undo();
        x.sofar(1);
        x.part(0);
        x.image(0);
        x.from(0);
        x.status(0);
        x.count(0);
        x.digest();
        x.tear(0);
        x.clear();
        Checks.type(x, "life 2;at 0 1;");
        x.read();
    }
}
