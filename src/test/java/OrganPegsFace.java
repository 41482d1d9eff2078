import java.lang.reflect.Constructor;
import java.lang.reflect.Field;
import java.lang.reflect.Method;
import java.lang.reflect.Modifier;
import java.util.Arrays;
import java.util.Set;
import java.util.TreeSet;
import java.util.stream.Collectors;

/** The public face of the class: what the document lists with its exceptions, and nothing else that is not private. */
public final class OrganPegsFace {
    private static final String INDEX = "IndexOutOfBoundsException";
    private static final String ARGUMENT = "IllegalArgumentException";
    private static final String STATE = "IllegalStateException";
    private static final Set<String> DUE = Set.of(
        "public static final int NONE", "public OrganPegs()",
        method("append(int)", ARGUMENT, STATE), method("clearText()"), method("errorPosition()"), method("load()", STATE),
        method("about(int)", ARGUMENT), method("pegOf(int,int)", INDEX, ARGUMENT), method("orderOf(int,int)", INDEX, ARGUMENT),
        method("pipeOf(int,int)", INDEX, ARGUMENT), method("chord(int)", INDEX), method("covered(int)", ARGUMENT),
        method("setting(int)", ARGUMENT),
        method("put(int,int,int)", INDEX, ARGUMENT, STATE), method("pull(int,int)", INDEX, STATE), method("cancel(int)", INDEX),
        method("ticks(int)", ARGUMENT), method("set(int,int)", ARGUMENT), method("undo()", STATE),
        method("doneIn(int)", INDEX), method("soundsIn(int)", INDEX), method("leastSpeed(int)", ARGUMENT), method("fullest()"),
        method("room(int,int)", INDEX, ARGUMENT),
        method("runScript(int,long)", ARGUMENT), method("simulate(long,int)", ARGUMENT),
        method("save(int)", INDEX), method("restore(int)", INDEX, STATE));
    private static int wrong = 0;

    public static void main(String[] args) {
        is("public and final", OrganPegs.class.getModifiers() == (Modifier.PUBLIC | Modifier.FINAL));
        is("NONE", OrganPegs.NONE == -1);
        faceIsDue();
        noNameTwice();
        classesInside();
        staticFields(OrganPegs.class);
        System.out.println(wrong == 0 ? "the face is as due" : wrong + " parts of the face are not as due");
        if (wrong != 0) {
            System.exit(1);
        }
    }

    private static void is(String what, boolean holds) {
        if (!holds) {
            wrong++;
            System.out.println("not as due: " + what);
        }
    }

    private static void faceIsDue() {
        Set<String> face = new TreeSet<>();
        for (Field f : OrganPegs.class.getDeclaredFields()) {
            if (!Modifier.isPrivate(f.getModifiers())) {
                face.add(Modifier.toString(f.getModifiers()) + " " + f.getType() + " " + f.getName());
            }
        }
        for (Constructor<?> c : OrganPegs.class.getDeclaredConstructors()) {
            face.add(c.toString());
        }
        for (Method m : OrganPegs.class.getDeclaredMethods()) {
            if (!Modifier.isPrivate(m.getModifiers())) {
                face.add(told(m));
            }
        }
        for (String due : DUE) {
            is(due + " is missing", face.contains(due));
        }
        for (String found : face) {
            is(found + " is no part of it", DUE.contains(found));
        }
    }

    private static void noNameTwice() {
        for (Method m : OrganPegs.class.getDeclaredMethods()) {
            for (Method other : OrganPegs.class.getDeclaredMethods()) {
                boolean same = m.getName().equals(other.getName()) && !m.equals(other);
                is("a second " + m.getName(), !same);
            }
        }
    }

    /** LANGUAGE.md, rules 1, 5 and 11: the classes inside are hidden and static, and there are not too many. */
    private static void classesInside() {
        Class<?>[] inside = OrganPegs.class.getDeclaredClasses();
        is("twelve classes at most", inside.length < 12);
        for (Class<?> c : inside) {
            int modifiers = c.getModifiers();
            is(c + " is hidden", !Modifier.isPublic(modifiers) && !Modifier.isProtected(modifiers));
            is(c + " is static", Modifier.isStatic(modifiers));
            staticFields(c);
        }
    }

    private static void staticFields(Class<?> c) {
        for (Field f : c.getDeclaredFields()) {
            is(f + " is final", !Modifier.isStatic(f.getModifiers()) || Modifier.isFinal(f.getModifiers()));
        }
    }

    private static String method(String call, String... exceptions) {
        return "public int " + call + " throws " + Arrays.asList(exceptions);
    }

    private static String told(Method m) {
        return Modifier.toString(m.getModifiers()) + " " + m.getReturnType() + " " + m.getName() + "("
            + Arrays.stream(m.getParameterTypes()).map(Class::getName).collect(Collectors.joining(",")) + ") throws "
            + Arrays.stream(m.getExceptionTypes()).map(Class::getSimpleName).collect(Collectors.toList());
    }
}
