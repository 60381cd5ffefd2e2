import java.lang.reflect.Constructor;
import java.lang.reflect.Field;
import java.lang.reflect.Method;
import java.lang.reflect.Modifier;
import java.util.Set;
import java.util.TreeSet;

/** The class shows the document's face and nothing else. */
public final class FaceTest {
    private static final Set<String> FACE = Set.of(
        "public static final int StopSetter.NONE",
        "public StopSetter()",
        "public boolean StopSetter.kinds(int,int)",
        "public boolean StopSetter.name(int,boolean)",
        "public int StopSetter.word(int)",
        "public int StopSetter.drop()",
        "public boolean StopSetter.hand(int,int)",
        "public int StopSetter.feed(long,long,long)",
        "public int StopSetter.grammar()",
        "public int StopSetter.cost()",
        "public int StopSetter.second()",
        "public int StopSetter.look(int,int) throws java.util.NoSuchElementException",
        "public int StopSetter.last()",
        "public int StopSetter.sentences()",
        "public int StopSetter.settled()",
        "public int StopSetter.go(int,int)",
        "public int StopSetter.count(int)");

    public static void main(String[] args) {
        Set<String> shown = new TreeSet<>();
        for (Field field : StopSetter.class.getDeclaredFields()) {
            if (!Modifier.isPrivate(field.getModifiers())) {
                shown.add(field.toString());
            }
        }
        for (Constructor<?> made : StopSetter.class.getDeclaredConstructors()) {
            if (!Modifier.isPrivate(made.getModifiers())) {
                shown.add(made.toString());
            }
        }
        Set<String> faceNames = new TreeSet<>();
        for (Method method : StopSetter.class.getMethods()) {
            faceNames.add(method.getName());
        }
        boolean wrong = false;
        for (Method method : StopSetter.class.getDeclaredMethods()) {
            if (!Modifier.isPrivate(method.getModifiers())) {
                shown.add(method.toString());
            } else if (faceNames.contains(method.getName())) {
                wrong = true;
                System.out.println("private method bears a public name: " + method);
            }
        }
        for (Class<?> inside : StopSetter.class.getDeclaredClasses()) {
            boolean hidden = !Modifier.isPublic(inside.getModifiers()) && !Modifier.isProtected(inside.getModifiers());
            if (!hidden || !Modifier.isStatic(inside.getModifiers())) {
                wrong = true;
                System.out.println("a class inside is not hidden and static: " + inside);
            }
        }
        if (!shown.equals(FACE) || !Modifier.isFinal(StopSetter.class.getModifiers())) {
            wrong = true;
            System.out.println("the face is " + shown);
        }
        if (StopSetter.NONE != -1) {
            wrong = true;
            System.out.println("NONE is " + StopSetter.NONE);
        }
        System.exit(wrong ? 1 : 0);
    }
}
