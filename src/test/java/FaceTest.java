import java.lang.reflect.Constructor;
import java.lang.reflect.Field;
import java.lang.reflect.Method;
import java.lang.reflect.Modifier;
import java.util.Set;
import java.util.TreeSet;

/** The class's face is the document's and no more (LANGUAGE.md, rule 1). */
final class FaceTest {
    private static final Kit KIT = new Kit();
    private static final String[] METHODS = {
        "feed 1", "cut 0", "fault 0", "told 1", "yard 2", "grows 2", "night 2", "thaw 1", "beat 1", "out 1", "drift 1",
        "today 2", "bestBeat 0", "laggards 1", "horses 1", "string 2", "turn 1", "plan 4", "lost 2", "odds 5",
        "noFall 2", "bore 4", "kinds 1", "write 2", "tear 0", "judge 0", "seed 1", "keep 1", "goBack 1"};
    private static final String[] CONSTANTS = {"NONE", "UNKNOWN", "OUTSIDE", "NOT", "FULL"};

    public static void main(String[] args) {
        KIT.due("NONE", IceSway.NONE, -1);
        KIT.due("UNKNOWN", IceSway.UNKNOWN, -1000000001);
        KIT.due("OUTSIDE", IceSway.OUTSIDE, -1000000002);
        KIT.due("NOT", IceSway.NOT, -1000000003);
        KIT.due("FULL", IceSway.FULL, -1000000004);
        KIT.due("public final", IceSway.class.getModifiers() & (Modifier.PUBLIC | Modifier.FINAL), Modifier.PUBLIC | Modifier.FINAL);
        methods();
        fieldsAndConstructors();
        insides();
        KIT.end();
    }

    private static void methods() {
        Set<String> want = new TreeSet<>(Set.of(METHODS));
        for (Method m : IceSway.class.getDeclaredMethods()) {
            if (Modifier.isPrivate(m.getModifiers())) {
                continue;
            }
            boolean known = want.remove(m.getName() + " " + m.getParameterCount());
            boolean plain = m.getReturnType() == int.class && m.getModifiers() == Modifier.PUBLIC;
            for (Class<?> type : m.getParameterTypes()) {
                plain = plain && type == int.class;
            }
            KIT.due(m + " is of the face", known && plain ? 1 : 0, 1);
        }
        KIT.due("missing " + want, want.size(), 0);
    }

    private static void fieldsAndConstructors() {
        Set<String> want = new TreeSet<>(Set.of(CONSTANTS));
        for (Field f : IceSway.class.getDeclaredFields()) {
            if (!Modifier.isPrivate(f.getModifiers())) {
                KIT.due(f + " is of the face", want.remove(f.getName()) ? 1 : 0, 1);
                KIT.due(f + " is a constant", f.getModifiers(), Modifier.PUBLIC | Modifier.STATIC | Modifier.FINAL);
            }
        }
        KIT.due("missing " + want, want.size(), 0);
        Constructor<?>[] constructors = IceSway.class.getDeclaredConstructors();
        KIT.due("constructors", constructors.length, 1);
        KIT.due("its parameters", constructors[0].getParameterCount(), 0);
        KIT.due("it is public", constructors[0].getModifiers(), Modifier.PUBLIC);
    }

    private static void insides() {
        Set<String> open = new TreeSet<>();
        for (String method : METHODS) {
            open.add(method.substring(0, method.indexOf(' ')));
        }
        for (Class<?> inside : IceSway.class.getDeclaredClasses()) {
            KIT.due(inside + " is static", Modifier.isStatic(inside.getModifiers()) ? 1 : 0, 1);
            KIT.due(inside + " is not open", inside.getModifiers() & (Modifier.PUBLIC | Modifier.PROTECTED), 0);
            int fields = 0;
            for (Field f : inside.getDeclaredFields()) {
                boolean fixed = Modifier.isStatic(f.getModifiers());
                fields += fixed ? 0 : 1;
                KIT.due(f + " is final if it is static", !fixed || Modifier.isFinal(f.getModifiers()) ? 1 : 0, 1);
            }
            KIT.due(inside + " has few fields", fields <= 20 ? 1 : 0, 1);
            for (Method m : inside.getDeclaredMethods()) {
                KIT.due(m + " has no public one's name", open.contains(m.getName()) ? 1 : 0, 0);
                KIT.due(m + " takes at most seven", m.getParameterCount() <= 7 ? 1 : 0, 1);
            }
        }
    }
}
