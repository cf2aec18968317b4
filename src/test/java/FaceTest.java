import java.lang.reflect.Constructor;
import java.lang.reflect.Field;
import java.lang.reflect.Method;
import java.lang.reflect.Modifier;
import java.util.Set;
import java.util.TreeSet;

/** The class shows the document's face and nothing more. */
public final class FaceTest {
    private static final Set<String> FACE = Set.of(
            "public static final int MemberFinder.NONE",
            "public MemberFinder()",
            "public int MemberFinder.newClass(int,int)",
            "public boolean MemberFinder.below(int,int)",
            "public int MemberFinder.field(int,int,boolean,boolean,int)",
            "public int MemberFinder.method(int,int,int,boolean,boolean,int)",
            "public int MemberFinder.maker(int,int,int)",
            "public int MemberFinder.find(int,int,int,int,int)",
            "public int MemberFinder.refused()",
            "public boolean MemberFinder.reaches(int,int)",
            "public int MemberFinder.called(int,int)",
            "public boolean MemberFinder.overrides(int,int)",
            "public int MemberFinder.member(int,int)",
            "public int MemberFinder.seen(int,int)");

    private static Set<String> face(Class<?> c) {
        Set<String> face = new TreeSet<>();
        for (Field f : c.getDeclaredFields()) {
            if (!Modifier.isPrivate(f.getModifiers())) {
                face.add(f.toString());
            }
        }
        for (Constructor<?> k : c.getDeclaredConstructors()) {
            if (!Modifier.isPrivate(k.getModifiers())) {
                face.add(k.toString());
            }
        }
        for (Method m : c.getDeclaredMethods()) {
            if (!Modifier.isPrivate(m.getModifiers())) {
                face.add(m.toString());
            }
        }
        return face;
    }

    public static void main(String[] args) {
        Set<String> due = new TreeSet<>(FACE);
        Set<String> got = face(MemberFinder.class);
        int modifiers = MemberFinder.class.getModifiers();
        boolean isRight = got.equals(due) && Modifier.isPublic(modifiers) && Modifier.isFinal(modifiers);
        if (!isRight) {
            System.out.println("the face is " + got + ", due is " + due + " of a public final class");
            System.exit(1);
        }
        System.out.println("the face is as due");
    }
}
