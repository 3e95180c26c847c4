import java.lang.reflect.Constructor;
import java.lang.reflect.Field;
import java.lang.reflect.Method;
import java.lang.reflect.Modifier;
import java.util.Arrays;
import java.util.TreeSet;

/** The public face is the document's, and nothing else of the class can be seen from outside. */
public final class FaceTest {
    private static final String[] METHODS = {
        "public boolean WireField.type(char)",
        "public int WireField.draw(int,int,int) throws java.lang.IndexOutOfBoundsException,"
            + "java.lang.IllegalArgumentException,java.lang.UnsupportedOperationException",
        "public void WireField.macro(int) throws java.lang.IndexOutOfBoundsException,"
            + "java.lang.IllegalArgumentException",
        "public void WireField.wipe()",
        "public boolean WireField.set(int,int,int)",
        "public int WireField.cell(int,int)",
        "public boolean WireField.copy(int,int,int,int,int,int,int)",
        "public int WireField.source(int,int,long,int)",
        "public int WireField.probe(int,int)",
        "public int WireField.run(int)",
        "public boolean WireField.back(int)",
        "public int WireField.period()",
        "public int WireField.seen(int,int) throws java.lang.IndexOutOfBoundsException",
        "public long WireField.record(int)",
        "public int WireField.look(int)",
    };

    public static void main(String[] args) {
        Check.due("the class is public and final", WireField.class.getModifiers(), Modifier.PUBLIC | Modifier.FINAL);
        TreeSet<String> visible = new TreeSet<>();
        TreeSet<String> publicNames = new TreeSet<>();
        for (Method method : WireField.class.getDeclaredMethods()) {
            if (!Modifier.isPrivate(method.getModifiers())) {
                visible.add(method.toString());
                publicNames.add(method.getName());
            }
        }
        Check.due("the methods", visible.toString(), new TreeSet<>(Arrays.asList(METHODS)).toString());
        for (Method method : WireField.class.getDeclaredMethods()) {
            boolean isPrivate = Modifier.isPrivate(method.getModifiers());
            Check.due("a private method named " + method.getName(),
                    isPrivate && publicNames.contains(method.getName()), false);
        }
        for (Field field : WireField.class.getDeclaredFields()) {
            Check.due("the field " + field.getName() + " is private", Modifier.isPrivate(field.getModifiers()), true);
        }
        Constructor<?>[] constructors = WireField.class.getDeclaredConstructors();
        Check.due("constructors", constructors.length, 1);
        Check.due("the constructor", constructors[0].toString(), "public WireField()");
        for (Class<?> inside : WireField.class.getDeclaredClasses()) {
            Check.due(inside.getName() + " is static", Modifier.isStatic(inside.getModifiers()), true);
            Check.due(inside.getName() + " is public", Modifier.isPublic(inside.getModifiers()), false);
            for (Constructor<?> constructor : inside.getDeclaredConstructors()) {
                // So that no part of an object is handed to another one while it is being made.
                Check.due("what " + constructor + " takes", constructor.getParameterCount(), 0);
            }
        }
        Check.end();
    }
}
