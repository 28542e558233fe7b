import java.lang.reflect.Constructor;
import java.lang.reflect.Field;
import java.lang.reflect.Method;
import java.lang.reflect.Modifier;
import java.util.Arrays;
import java.util.TreeSet;

/** The class has the document's public face, and nothing else that is not private. */
public final class FaceTest {
    private static final Check CHECK = new Check("FaceTest");

    public static void main(String[] args) {
        String[] due = {"sign(int,long,long,long,int)int IllegalArgumentException UnsupportedOperationException",
            "turn(int,boolean)int NoSuchElementException",
            "map(int,int,int,int)int IndexOutOfBoundsException IllegalArgumentException",
            "tag(int,int)int NoSuchElementException IllegalArgumentException", "length()int",
            "letter(int)int IndexOutOfBoundsException", "from(int)int IndexOutOfBoundsException",
            "line(int)int NoSuchElementException", "block(int)int NoSuchElementException",
            "twice(int)int NoSuchElementException", "space(int)boolean NoSuchElementException",
            "share(long,long)long ArithmeticException", "word(int,int)int IndexOutOfBoundsException",
            "find(int)int IllegalArgumentException UnsupportedOperationException",
            "found(int)int IndexOutOfBoundsException", "area(long,long,long,long)int"};
        TreeSet<String> got = new TreeSet<>();
        for (Method method : TextOrder.class.getDeclaredMethods()) {
            if (!Modifier.isPrivate(method.getModifiers())) {
                got.add(faceOf(method));
            }
        }
        CHECK.due("methods", got.toString(), new TreeSet<>(Arrays.asList(due)).toString());
        for (Field field : TextOrder.class.getDeclaredFields()) {
            CHECK.due(field.getName() + " is private", Modifier.isPrivate(field.getModifiers()), true);
        }
        Constructor<?>[] constructors = TextOrder.class.getDeclaredConstructors();
        CHECK.due("constructors", constructors.length, 1);
        CHECK.due("parameters of the constructor", constructors[0].getParameterCount(), 0);
        CHECK.due("it is public", Modifier.isPublic(constructors[0].getModifiers()), true);
        CHECK.due("the class is public and final", Modifier.isPublic(TextOrder.class.getModifiers())
                && Modifier.isFinal(TextOrder.class.getModifiers()), true);
        CHECK.end();
    }

    private static String faceOf(Method method) {
        CHECK.due(method.getName() + " is public and of the object", Modifier.isPublic(method.getModifiers())
                && !Modifier.isStatic(method.getModifiers()), true);
        StringBuilder face = new StringBuilder(method.getName()).append('(');
        for (Class<?> type : method.getParameterTypes()) {
            face.append(face.charAt(face.length() - 1) == '(' ? "" : ",").append(type.getSimpleName());
        }
        face.append(')').append(method.getReturnType().getSimpleName());
        for (Class<?> type : method.getExceptionTypes()) {
            face.append(' ').append(type.getSimpleName());
        }
        return face.toString();
    }
}
