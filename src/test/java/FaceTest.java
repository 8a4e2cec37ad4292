import java.lang.reflect.Constructor;
import java.lang.reflect.Field;
import java.lang.reflect.Method;
import java.lang.reflect.Modifier;
import java.util.TreeSet;

/** The class's face is the document's, and nothing beside it can be seen from outside. */
public final class FaceTest {
    private static final String[] FACE = {
        "REFUSED:int", "new(int)", "clear(int)", "range(int,int,int)",
        "property(int,int,boolean,boolean)", "named(int,int,boolean,boolean)", "close(int)",
        "invert(int)", "join(int,int)", "meets(int,int)", "same(int,int)", "has(int,int)",
        "size(int)", "least(int,int)", "bound(int,int,boolean)", "about(int,int)"};

    public static void main(String[] args) {
        TreeSet<String> seen = new TreeSet<>();
        boolean wrong = !Modifier.isFinal(CharacterSets.class.getModifiers())
                || !Modifier.isPublic(CharacterSets.class.getModifiers());
        for (Field f : CharacterSets.class.getDeclaredFields()) {
            wrong |= Modifier.isStatic(f.getModifiers()) && !Modifier.isFinal(f.getModifiers());
            if (!Modifier.isPrivate(f.getModifiers())) {
                seen.add(f.getName() + ":" + f.getType().getName());
                wrong |= (f.getModifiers() & ~(Modifier.PUBLIC | Modifier.STATIC | Modifier.FINAL)) != 0;
            }
        }
        for (Constructor<?> c : CharacterSets.class.getDeclaredConstructors()) {
            seen.add("new" + listed(c.getParameterTypes()));
        }
        for (Method m : CharacterSets.class.getDeclaredMethods()) {
            if (!Modifier.isPrivate(m.getModifiers())) {
                seen.add(m.getName() + listed(m.getParameterTypes()));
                wrong |= m.getReturnType() != int.class || !Modifier.isPublic(m.getModifiers());
            }
        }
        TreeSet<String> due = new TreeSet<>(java.util.Arrays.asList(FACE));
        if (wrong || !seen.equals(due)) {
            System.out.println("the face is " + seen + ", due is " + due);
            System.exit(1);
        }
        System.out.println("the face is as due");
    }

    private static String listed(Class<?>[] types) {
        StringBuilder text = new StringBuilder("(");
        for (int i = 0; i < types.length; i++) {
            text.append(i == 0 ? "" : ",").append(types[i].getName());
        }
        return text.append(")").toString();
    }
}
