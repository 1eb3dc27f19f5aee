import java.lang.reflect.Constructor;
import java.lang.reflect.Field;
import java.lang.reflect.Method;
import java.lang.reflect.Modifier;
import java.util.Set;
import java.util.TreeSet;

/** The class shows the document's constructor and methods and nothing else. */
public final class FaceTests {
    private static final Set<String> FACE = Set.of(
            "public RowReduction()",
            "public boolean RowReduction.begin(int)",
            "public boolean RowReduction.put(int,int,int)",
            "public int RowReduction.get(int,int)",
            "public int RowReduction.solve()",
            "public long RowReduction.above(int)",
            "public long RowReduction.under(int)");

    public static void main(String[] args) {
        Set<String> shown = new TreeSet<>();
        for (Constructor<?> constructor : RowReduction.class.getDeclaredConstructors()) {
            addIfShown(shown, constructor.getModifiers(), constructor.toString());
        }
        for (Method method : RowReduction.class.getDeclaredMethods()) {
            addIfShown(shown, method.getModifiers(), method.toString());
        }
        for (Field field : RowReduction.class.getDeclaredFields()) {
            addIfShown(shown, field.getModifiers(), field.toString());
        }
        int modifiers = RowReduction.class.getModifiers();
        boolean asDue = shown.equals(new TreeSet<>(FACE))
                && Modifier.isPublic(modifiers) && Modifier.isFinal(modifiers);
        System.out.println(asDue ? "the face is as due" : "the face is " + shown + ", due is " + new TreeSet<>(FACE));
        if (!asDue) {
            System.exit(1);
        }
    }

    private static void addIfShown(Set<String> shown, int modifiers, String text) {
        if (!Modifier.isPrivate(modifiers)) {
            shown.add(text);
        }
    }
}
