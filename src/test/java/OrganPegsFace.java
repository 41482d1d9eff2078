import java.lang.reflect.Constructor;
import java.lang.reflect.Field;
import java.lang.reflect.Method;
import java.lang.reflect.Modifier;
import java.util.Set;
import java.util.TreeSet;

/** The public face of the class: what the document lists, and nothing else that is not private. */
public final class OrganPegsFace {
    private static final Set<String> DUE = Set.of(
        "public static final int NONE", "public OrganPegs()",
        "int append(int)", "int clearText()", "int errorPosition()", "int load()", "int about(int)", "int pegOf(int,int)",
        "int orderOf(int,int)", "int pipeOf(int,int)", "int chord(int)", "int covered(int)", "int setting(int)",
        "int put(int,int,int)", "int pull(int,int)", "int cancel(int)", "int ticks(int)", "int set(int,int)", "int undo()",
        "int doneIn(int)", "int soundsIn(int)", "int leastSpeed(int)", "int fullest()", "int room(int,int)",
        "int runScript(int,long)", "int simulate(long,int)", "int save(int)", "int restore(int)");

    public static void main(String[] args) {
        Set<String> face = new TreeSet<>();
        Set<String> hidden = new TreeSet<>();
        for (Field f : OrganPegs.class.getDeclaredFields()) {
            if (!Modifier.isPrivate(f.getModifiers())) {
                face.add(Modifier.toString(f.getModifiers()) + " " + f.getType() + " " + f.getName());
            }
        }
        for (Constructor<?> c : OrganPegs.class.getDeclaredConstructors()) {
            face.add(c.toString());
        }
        for (Method m : OrganPegs.class.getDeclaredMethods()) {
            if (Modifier.isPrivate(m.getModifiers())) {
                hidden.add(m.getName());
            } else {
                face.add(told(m));
            }
        }
        boolean kind = Modifier.isPublic(OrganPegs.class.getModifiers()) && Modifier.isFinal(OrganPegs.class.getModifiers());
        boolean twice = face.stream().anyMatch(f -> hidden.stream().anyMatch(h -> f.startsWith("int " + h + "(")));
        boolean fine = kind && !twice && face.equals(new TreeSet<>(DUE));
        System.out.println(fine ? "the face is as due" : "the face is not as due: " + face);
        if (!fine) {
            System.exit(1);
        }
    }

    private static String told(Method m) {
        StringBuilder all = new StringBuilder(m.getReturnType() + " " + m.getName() + "(");
        for (int i = 0; i < m.getParameterCount(); i++) {
            all.append(i == 0 ? "" : ",").append(m.getParameterTypes()[i]);
        }
        boolean plain = m.getModifiers() == Modifier.PUBLIC;
        return (plain ? "" : Modifier.toString(m.getModifiers()) + " ") + all.append(')');
    }
}
