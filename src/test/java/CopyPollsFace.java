import java.lang.reflect.Constructor;
import java.lang.reflect.Field;
import java.lang.reflect.Method;
import java.lang.reflect.Modifier;
import java.util.Arrays;
import java.util.TreeSet;

/** The class shows the constants, constructor and methods of the document, and no other member. */
public final class CopyPollsFace {
    private static final String[] FACE = {
        "public static final int NONE = -1",
        "public static final int RANGE = -2",
        "public static final int STATE = -3",
        "public static final int FULL = -4",
        "public CopyPolls(int)",
        "public int CopyPolls.store(int)",
        "public void CopyPolls.octet(int)",
        "public int CopyPolls.put(int)",
        "public int CopyPolls.answers(int,boolean)",
        "public int CopyPolls.alter(int,int,int,int)",
        "public int CopyPolls.cut(int,int,int)",
        "public int CopyPolls.lose(int,int)",
        "public int CopyPolls.poll(int,long)",
        "public int CopyPolls.polled(int,int) throws java.lang.IndexOutOfBoundsException",
        "public int CopyPolls.majority(int)",
        "public int CopyPolls.digest()",
        "public int CopyPolls.mend(int)",
        "public int CopyPolls.stale(int,int)",
        "public int CopyPolls.fill(int)",
        "public int CopyPolls.move(int,int,int)",
        "public int CopyPolls.rate(int,int,int)",
        "public long CopyPolls.odds(int,int) throws java.lang.ArithmeticException",
        "public int CopyPolls.at(int,int,int) throws java.lang.ArrayIndexOutOfBoundsException",
        "public int CopyPolls.about(int,int)",
        "public int CopyPolls.load(int)",
    };

    public static void main(String[] args) throws IllegalAccessException {
        TreeSet<String> shown = new TreeSet<>();
        for (Field field : CopyPolls.class.getDeclaredFields()) {
            if (!Modifier.isPrivate(field.getModifiers())) {
                shown.add(Modifier.toString(field.getModifiers()) + " " + field.getType() + " "
                    + field.getName() + " = " + field.get(null));
            }
        }
        for (Constructor<?> constructor : CopyPolls.class.getDeclaredConstructors()) {
            if (!Modifier.isPrivate(constructor.getModifiers())) {
                shown.add(constructor.toString());
            }
        }
        for (Method method : CopyPolls.class.getDeclaredMethods()) {
            if (!Modifier.isPrivate(method.getModifiers())) {
                shown.add(method.toString());
            }
        }
        TreeSet<String> missing = new TreeSet<>(Arrays.asList(FACE));
        missing.removeAll(shown);
        shown.removeAll(Arrays.asList(FACE));
        boolean open = Modifier.toString(CopyPolls.class.getModifiers()).equals("public final");
        if (!missing.isEmpty() || !shown.isEmpty() || !open) {
            System.out.println("missing: " + missing + ", not in the document: " + shown
                + ", public and final: " + open);
            System.exit(1);
        }
        System.out.println("the face is the document's");
    }
}
