import java.lang.reflect.Constructor;
import java.lang.reflect.Field;
import java.lang.reflect.Member;
import java.lang.reflect.Method;
import java.lang.reflect.Modifier;
import java.util.Set;
import java.util.TreeSet;

/** The class shows the document's face and nothing beside it. */
public final class StageClockFaceTest {
    private static final String FINAL_CLASS = "public final class StageClock";
    private static final String ARGUMENT = " throws java.lang.IllegalArgumentException";
    private static final String INDEX = "java.lang.IndexOutOfBoundsException";
    private static final Set<String> FACE = Set.of(
            "public StageClock()",
            "public int StageClock.add(int,int,int,int,boolean,int,boolean)"
                    + ARGUMENT + ",java.lang.IllegalStateException",
            "public void StageClock.change(int,int,int,int,int,boolean,int,boolean)" + ARGUMENT + "," + INDEX,
            "public int StageClock.cut(int)" + ARGUMENT,
            "public int StageClock.when(int,int)" + ARGUMENT + "," + INDEX,
            "public int StageClock.in(int,int)" + ARGUMENT,
            "public int StageClock.held(int) throws " + INDEX,
            "public int StageClock.giver(int,int)" + ARGUMENT + "," + INDEX,
            "public int StageClock.count(int)" + ARGUMENT);

    public static void main(String[] args) {
        Set<String> shown = new TreeSet<>();
        for (Constructor<?> c : StageClock.class.getDeclaredConstructors()) {
            keepShown(shown, c, c.toString());
        }
        for (Method m : StageClock.class.getDeclaredMethods()) {
            keepShown(shown, m, m.toString());
        }
        for (Field f : StageClock.class.getDeclaredFields()) {
            keepShown(shown, f, f.toString());
        }
        String head = Modifier.toString(StageClock.class.getModifiers()) + " class " + StageClock.class.getName();
        if (!shown.equals(FACE) || !head.equals(FINAL_CLASS)) {
            System.out.println("the face is " + head + " " + shown);
            System.out.println("due is " + FINAL_CLASS + " " + new TreeSet<>(FACE));
            System.exit(1);
        }
        System.out.println("the face is the document's");
    }

    private static void keepShown(Set<String> shown, Member member, String text) {
        if (!Modifier.isPrivate(member.getModifiers()) && !member.isSynthetic()) {
            shown.add(text);
        }
    }
}
