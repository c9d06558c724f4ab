import java.lang.reflect.Constructor;
import java.lang.reflect.Field;
import java.lang.reflect.Method;
import java.lang.reflect.Modifier;
import java.util.Arrays;
import java.util.Set;
import java.util.TreeSet;

/** The public face: just the constructor and the methods of the document, and nothing else to see. */
public final class FaceTest {
    private static final String OUTSIDE = " throws IndexOutOfBoundsException";
    private static final String ARGUMENT = " throws IllegalArgumentException";
    private static final String OUTSIDE_ARGUMENT = " throws IndexOutOfBoundsException, IllegalArgumentException";
    private static final String OUTSIDE_STATE = " throws IndexOutOfBoundsException, IllegalStateException";

    private static final Set<String> METHODS = Set.of(
            "int newBoard(int, int)" + ARGUMENT,
            "boolean turnWall(int, int)" + OUTSIDE_STATE,
            "int setColour(int, int)" + OUTSIDE_ARGUMENT,
            "int addPaint(int, int)" + OUTSIDE_ARGUMENT,
            "int put(int, int)" + OUTSIDE_STATE,
            "int roll(int)" + OUTSIDE_STATE,
            "int rollOn(int, int)" + OUTSIDE_ARGUMENT,
            "int column()",
            "int row()",
            "int top()",
            "int bottom()",
            "int faceTo(int)" + OUTSIDE,
            "boolean isAsAtFirst()",
            "int colourOf(int)" + OUTSIDE,
            "int paintOf(int)" + OUTSIDE,
            "boolean isWall(int, int)" + OUTSIDE,
            "int printAt(int, int)" + OUTSIDE,
            "boolean canRoll(int)" + OUTSIDE,
            "int width()",
            "int height()",
            "int walls()",
            "int rolls()",
            "int prints()",
            "int cellsWith(int)" + OUTSIDE,
            "int fewestRolls(int, int)" + OUTSIDE,
            "int fewestRollsWithTop(int, int, int)" + OUTSIDE,
            "int firstRoll(int, int, int)" + OUTSIDE,
            "int topsAt(int, int)" + OUTSIDE,
            "int cellsWithinReach()",
            "int waysToLie()",
            "int cellsBehind(int)" + ARGUMENT,
            "int bestPut(int)" + OUTSIDE,
            "double meanPaint()",
            "long digest()");

    private FaceTest() {
    }

    public static void main(String[] args) {
        Set<String> seen = new TreeSet<>();
        Set<String> hidden = new TreeSet<>();
        for (Method method : PaintedDie.class.getDeclaredMethods()) {
            if (Modifier.isPrivate(method.getModifiers())) {
                hidden.add(method.getName());
            } else {
                Due.is(method + " is public", Modifier.isPublic(method.getModifiers()), true);
                Due.is(method + " is static", Modifier.isStatic(method.getModifiers()), false);
                seen.add(written(method));
                Due.is("private too: " + method.getName(), hidden.contains(method.getName()), false);
            }
        }
        Due.is("the methods", seen, new TreeSet<>(METHODS));
        for (Field field : PaintedDie.class.getDeclaredFields()) {
            Due.is(field + " is private", Modifier.isPrivate(field.getModifiers()), true);
            Due.is(field + " is static without being final",
                    Modifier.isStatic(field.getModifiers()) && !Modifier.isFinal(field.getModifiers()), false);
        }
        Constructor<?>[] constructors = PaintedDie.class.getDeclaredConstructors();
        Due.is("constructors", constructors.length, 1);
        Due.is("its parameters", constructors[0].getParameterCount(), 0);
        Due.is("it is public", Modifier.isPublic(constructors[0].getModifiers()), true);
        int modifiers = PaintedDie.class.getModifiers();
        Due.is("the class is public and final", Modifier.isPublic(modifiers) && Modifier.isFinal(modifiers), true);
        Due.end();
    }

    private static String written(Method method) {
        StringBuilder text = new StringBuilder();
        text.append(method.getReturnType().getName()).append(' ').append(method.getName()).append('(');
        text.append(names(method.getParameterTypes())).append(')');
        if (method.getExceptionTypes().length > 0) {
            text.append(" throws ").append(names(method.getExceptionTypes()));
        }
        return text.toString();
    }

    private static String names(Class<?>[] types) {
        return String.join(", ", Arrays.stream(types).map(Class::getSimpleName).toList());
    }
}
