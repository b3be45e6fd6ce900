import java.lang.reflect.Constructor;
import java.lang.reflect.Field;
import java.lang.reflect.Method;
import java.lang.reflect.Modifier;
import java.util.Arrays;
import java.util.TreeSet;

/** The public face: the document's constants, constructor and methods, and no other member in sight. */
public final class FaceTest {
    private static final String[] DUE = {
        "public static final int ChannelMachine.ENDED",
        "public static final int ChannelMachine.MORE",
        "public static final int ChannelMachine.HOST",
        "public ChannelMachine()",
        "public int ChannelMachine.type(long) throws IllegalArgumentException,IllegalStateException",
        "public int ChannelMachine.load() throws IllegalArgumentException",
        "public int ChannelMachine.run(int) throws IllegalArgumentException,IllegalStateException,"
            + "ArithmeticException",
        "public int ChannelMachine.give(int) throws IllegalStateException",
        "public int ChannelMachine.take() throws NoSuchElementException",
        "public int ChannelMachine.variable(int) throws IllegalArgumentException",
        "public void ChannelMachine.set(int,int) throws IllegalArgumentException",
        "public int ChannelMachine.channel(int) throws IllegalArgumentException",
        "public int ChannelMachine.count(int)",
    };

    public static void main(String[] args) {
        TreeSet<String> seen = new TreeSet<>();
        for (Field field : ChannelMachine.class.getDeclaredFields()) {
            add(seen, field.getModifiers(), field.toGenericString());
        }
        for (Constructor<?> constructor : ChannelMachine.class.getDeclaredConstructors()) {
            add(seen, constructor.getModifiers(), constructor.toGenericString());
        }
        for (Method method : ChannelMachine.class.getDeclaredMethods()) {
            add(seen, method.getModifiers(), method.toGenericString());
        }
        TreeSet<String> due = new TreeSet<>(Arrays.asList(DUE));
        if (!seen.equals(due)) {
            Checks.fault("the face is " + seen + ", due is " + due);
        }
        if (!Modifier.isFinal(ChannelMachine.class.getModifiers())) {
            Checks.fault("the class is not final");
        }
        Checks.end();
    }

    private static void add(TreeSet<String> seen, int modifiers, String member) {
        if (!Modifier.isPrivate(modifiers)) {
            seen.add(member.replace("java.lang.", "").replace("java.util.", ""));
        }
    }
}
