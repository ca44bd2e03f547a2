import java.lang.management.ManagementFactory;
import java.lang.reflect.Array;
import java.lang.reflect.Constructor;
import java.lang.reflect.Field;
import java.lang.reflect.Method;
import java.lang.reflect.Modifier;
import java.util.ArrayDeque;
import java.util.Collections;
import java.util.Deque;
import java.util.IdentityHashMap;
import java.util.Set;
import java.util.TreeSet;

/** The public face, and how much an object is made of and its calls make. */
public final class FaceTest {
    private static final String[] CALLS = {
        "mark(III)", "monk(II)", "of(II)", "at(II)", "type(I)", "rock()", "count(I)", "days(I)", "send(II)",
        "press(III)", "ink(II)", "drift(I)", "undo()", "seed(I)", "dark(II)", "size(II)", "then(II)", "gone(I)",
        "needs(II)", "sends(II)", "round(II)", "pair(II)", "small(II)", "slip(III)", "image()", "restore()",
        "worn(IIIIII)", "swept(IIIII)", "film(IIIII)", "sheet(III)", "drop(I)", "item(IIIJ)", "copy(IIIII)"};
    private static final String[] CONSTANTS = {
        "BAD=-1", "NOT=-2", "FULL=-3", "NONE=-4", "NULL=-11", "CAST=-12", "INDEX=-13", "SIZE=-14"};

    public static void main(String[] args) throws ReflectiveOperationException {
        members();
        room();
        making();
        Due.end();
    }

    private static void members() throws ReflectiveOperationException {
        Class<?> face = ErasingMonks.class;
        Due.holds("public and final", Modifier.isPublic(face.getModifiers()) && Modifier.isFinal(face.getModifiers()));
        Set<String> calls = new TreeSet<>();
        Set<String> hidden = new TreeSet<>();
        for (Method method : face.getDeclaredMethods()) {
            if (Modifier.isPrivate(method.getModifiers())) {
                hidden.add(method.getName());
                continue;
            }
            Due.holds(method + " is public", method.getModifiers() == Modifier.PUBLIC);
            Due.holds(method + " answers an int", method.getReturnType() == int.class);
            StringBuilder kinds = new StringBuilder();
            for (Class<?> kind : method.getParameterTypes()) {
                kinds.append(kind == int.class ? 'I' : kind == long.class ? 'J' : '?');
            }
            calls.add(method.getName() + "(" + kinds + ")");
            Due.holds(method + " declares no exception", method.getExceptionTypes().length == 0);
        }
        Due.holds("the calls " + calls, calls.equals(new TreeSet<>(Set.of(CALLS))));
        for (String call : CALLS) {
            String name = call.substring(0, call.indexOf('('));
            Due.holds("no private " + name, !hidden.contains(name));
        }
        Set<String> constants = new TreeSet<>();
        for (Field field : face.getDeclaredFields()) {
            if (!Modifier.isPrivate(field.getModifiers())) {
                Due.holds(field + " is a constant",
                    field.getModifiers() == (Modifier.PUBLIC | Modifier.STATIC | Modifier.FINAL));
                constants.add(field.getName() + "=" + field.getInt(null));
            }
            if (Modifier.isStatic(field.getModifiers())) {
                Due.holds(field + " is final", Modifier.isFinal(field.getModifiers()));
            }
        }
        Due.holds("the constants " + constants, constants.equals(new TreeSet<>(Set.of(CONSTANTS))));
        Constructor<?>[] makers = face.getDeclaredConstructors();
        Due.holds("one constructor", makers.length == 1 && makers[0].getParameterCount() == 0
            && makers[0].getModifiers() == Modifier.PUBLIC);
        for (Class<?> inside : face.getDeclaredClasses()) {
            int kinds = inside.getModifiers();
            Due.holds(inside + " is static", Modifier.isStatic(kinds) && !Modifier.isPublic(kinds)
                && !Modifier.isProtected(kinds));
        }
        Due.holds("twelve classes at most", face.getDeclaredClasses().length <= 11);
    }

    /** Far below the room of a run even for a thousand objects. */
    private static void room() throws ReflectiveOperationException {
        Set<Object> seen = Collections.newSetFromMap(new IdentityHashMap<>());
        Deque<Object> open = new ArrayDeque<>();
        open.add(new ErasingMonks());
        long cells = 0;
        while (!open.isEmpty()) {
            Object next = open.remove();
            if (!seen.add(next)) {
                continue;
            }
            if (next.getClass().isArray()) {
                cells += Array.getLength(next);
                for (int i = 0; i < Array.getLength(next) && !next.getClass().getComponentType().isPrimitive(); i++) {
                    open.add(Array.get(next, i));
                }
                continue;
            }
            for (Field field : next.getClass().getDeclaredFields()) {
                if (!Modifier.isStatic(field.getModifiers())) {
                    field.setAccessible(true);
                    cells++;
                    if (!field.getType().isPrimitive()) {
                        open.add(field.get(next));
                    }
                }
            }
        }
        Due.holds("objects of one: " + seen.size(), seen.size() <= 300);
        Due.holds("fields and elements of one: " + cells, cells <= 3000);
    }

    /** No call makes anything: what is read here is the little that the reading itself makes. */
    private static void making() {
        com.sun.management.ThreadMXBean bean =
            (com.sun.management.ThreadMXBean) ManagementFactory.getThreadMXBean();
        ErasingMonks x = Due.on("60.9/60,50.8,40.7/9,30.6,20.5,10.4;p99>0,n88>1,s77>2,t66>3,a55>4");
        x.sheet(0, 2, 24);
        long most = 0;
        for (int turn = 0; turn < 3; turn++) {
            long ahead = bean.getThreadAllocatedBytes(Thread.currentThread().getId());
            dearCalls(x);
            most = bean.getThreadAllocatedBytes(Thread.currentThread().getId()) - ahead;
        }
        Due.holds("bytes made by calls: " + most, most <= 4096);
    }

    private static void dearCalls(ErasingMonks x) {
        x.sends(30, -1);
        x.round(0, -1);
        x.pair(0, 0);
        x.small(1, 0);
        x.slip(2, 3, 0);
        x.gone(0);
        x.film(0, 24, 0, 2, 0);
        x.worn(0, 0, 2, 0, 8, 1);
        x.image();
        x.days(40);
        x.drift(40);
        x.undo();
        x.restore();
        x.sheet(1, 3, 24);
        x.drop(1);
        x.type('9');
        x.rock();
        x.swept(99, 0, 2, 0, 5);
        x.copy(0, 0, 0, 1, 23);
    }
}
