import java.lang.reflect.Constructor;
import java.lang.reflect.Field;
import java.lang.reflect.Method;
import java.lang.reflect.Modifier;
import java.util.Set;
import java.util.TreeSet;

/** The public face: just the constants, the constructor and the methods of the document. */
public final class FaceTest {
    private static final String[] FACE = {
        "public final class SubtitleStyles",
        "public SubtitleStyles()",
        "public static final int BAD",
        "public static final int STATE",
        "public static final int FULL",
        "public static final int NONE",
        "public int style(int)",
        "public int setParent(int,int)",
        "public int setStyle(int,int,int)",
        "public int unstyle()",
        "public int flatten()",
        "public int styleAt(int,int)",
        "public int valueOf(int,int)",
        "public int from(int,int)",
        "public int styles()",
        "public int type(int)",
        "public int clear()",
        "public int line(int,int,int)",
        "public int remove(int)",
        "public int change(int,int,int)",
        "public int shift(int,int)",
        "public int setHeight(int)",
        "public int about(int,int)",
        "public int lines()",
        "public int sign(int,int,int)",
        "public int syllable(int,int,int)",
        "public int fit(int)",
        "public int shows(int,int,int)",
        "public int shown(int,int)",
        "public int crowd()",
        "public float sung(int)",
        "public int unlike()",
        "public int undo()",
        "public long fingerprint()",
    };

    public static void main(String[] args) {
        Set<String> due = new TreeSet<>(Set.of(FACE));
        Set<String> got = new TreeSet<>();
        Class<?> face = SubtitleStyles.class;
        got.add(Modifier.toString(face.getModifiers()) + " class " + face.getName());
        for (Constructor<?> made : face.getDeclaredConstructors()) {
            add(got, made.getModifiers(), made.toString());
        }
        for (Field field : face.getDeclaredFields()) {
            String text = Modifier.toString(field.getModifiers()) + " " + field.getType() + " " + field.getName();
            add(got, field.getModifiers(), text);
        }
        for (Method method : face.getDeclaredMethods()) {
            add(got, method.getModifiers(), method.toString().replace("SubtitleStyles.", ""));
        }
        Due d = new Due();
        for (String member : due) {
            d.due("the face has " + member, got.contains(member) ? 1 : 0, 1);
        }
        for (String member : got) {
            d.due("the document has " + member, due.contains(member) ? 1 : 0, 1);
        }
        d.end();
    }

    private static void add(Set<String> members, int modifiers, String text) {
        if (!Modifier.isPrivate(modifiers)) {
            members.add(text);
        }
    }
}
