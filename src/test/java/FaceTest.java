import java.lang.reflect.Constructor;
import java.lang.reflect.Field;
import java.lang.reflect.Method;
import java.lang.reflect.Modifier;
import java.util.ArrayList;
import java.util.Arrays;
import java.util.List;
import java.util.Set;
import java.util.TreeSet;

/** The class has the face of the document, and nothing else that others can see. */
public final class FaceTest {
    private static final String[] FACE = {
        "int addMagnet(int,int,boolean) IllegalArgumentException UnsupportedOperationException",
        "int setStrength(int,int) IndexOutOfBoundsException IllegalArgumentException",
        "int turn(int) IndexOutOfBoundsException",
        "int shift(int) IllegalArgumentException",
        "int move()",
        "int magnetCount()",
        "int position(int) IndexOutOfBoundsException",
        "int strength(int) IndexOutOfBoundsException",
        "char pole(int) IndexOutOfBoundsException",
        "int magnetAt(int) IllegalArgumentException NoSuchElementException",
        "int magnetByStrength(int) NoSuchElementException",
        "int dig(int,int) IndexOutOfBoundsException IllegalArgumentException UnsupportedOperationException",
        "int fill(int) IndexOutOfBoundsException",
        "int settle() UnsupportedOperationException",
        "int tunnelCount()",
        "boolean isOpen(int) IndexOutOfBoundsException",
        "int blocked()",
        "int parts()",
        "int walk(int,int) IndexOutOfBoundsException NoSuchElementException",
        "int bridges()",
        "int bridgesByFilling()",
        "boolean canSettle()",
        "boolean canSettleByUnions()",
        "int fewestTurns() NoSuchElementException",
        "int fewestTurnsBySets() NoSuchElementException",
        "int leastBlocked()",
        "int leastBlockedByBounds()",
        "float force(int) IndexOutOfBoundsException",
        "int wholeForce(int) IndexOutOfBoundsException",
        "double field(int) IllegalArgumentException",
        "int strongestPosition() NoSuchElementException",
        "int queen() NoSuchElementException",
        "double meanStrength() ArithmeticException",
        "float openShare() ArithmeticException",
        "int turnTotal()",
        "int turnsOf(int) IndexOutOfBoundsException",
        "int moved()",
        "int feed(char) IllegalStateException",
        "int execute() IllegalArgumentException UnsupportedOperationException",
        "int faultPosition() NoSuchElementException",
        "int writeMagnet(int) IndexOutOfBoundsException",
        "char lineCharacter(int) IndexOutOfBoundsException",
        "int denial() NoSuchElementException",
        "int denialDetail() NoSuchElementException",
        "int denialCause() NoSuchElementException",
        "int undo() IllegalStateException",
        "int undoCount()",
        "int saveSnapshot()",
        "int restoreSnapshot() IllegalStateException",
    };

    public static void main(String[] args) {
        methodsAreTheFace();
        nothingElseIsSeen();
        staticFieldsAreConstants(MagnetColony.class);
        for (Class<?> inside : MagnetColony.class.getDeclaredClasses()) {
            staticFieldsAreConstants(inside);
        }
        Checks.finish("FaceTest");
    }

    private static void methodsAreTheFace() {
        Set<String> due = new TreeSet<>(Arrays.asList(FACE));
        Set<String> seen = new TreeSet<>();
        Set<String> faceNames = new TreeSet<>();
        List<String> others = new ArrayList<>();
        for (Method method : MagnetColony.class.getDeclaredMethods()) {
            if (Modifier.isPublic(method.getModifiers())) {
                seen.add(describe(method));
                faceNames.add(method.getName());
            } else if (!method.isSynthetic()) {
                Checks.due(method + " is private", Modifier.isPrivate(method.getModifiers()), true);
                others.add(method.getName());
            }
        }
        for (Class<?> inside : MagnetColony.class.getDeclaredClasses()) {
            for (Method method : inside.getDeclaredMethods()) {
                others.add(method.getName());
            }
        }
        Checks.due("the public methods", seen, due);
        for (String name : others) {
            Checks.due(name + " is a name of the face and of another method", faceNames.contains(name), false);
        }
    }

    private static String describe(Method method) {
        StringBuilder text = new StringBuilder();
        text.append(method.getReturnType().getSimpleName()).append(' ').append(method.getName()).append('(');
        String comma = "";
        for (Class<?> parameter : method.getParameterTypes()) {
            text.append(comma).append(parameter.getSimpleName());
            comma = ",";
        }
        text.append(')');
        for (Class<?> thrown : method.getExceptionTypes()) {
            text.append(' ').append(thrown.getSimpleName());
        }
        return text.toString();
    }

    private static void nothingElseIsSeen() {
        Checks.due("the class is public and final",
                MagnetColony.class.getModifiers(), Modifier.PUBLIC | Modifier.FINAL);
        Constructor<?>[] constructors = MagnetColony.class.getDeclaredConstructors();
        Checks.due("the number of constructors", constructors.length, 1);
        Checks.due("the constructor is public", constructors[0].getModifiers(), Modifier.PUBLIC);
        Checks.due("the constructor's parameters", constructors[0].getParameterCount(), 0);
        for (Field field : MagnetColony.class.getDeclaredFields()) {
            Checks.due(field + " is private", Modifier.isPrivate(field.getModifiers()), true);
        }
        for (Class<?> inside : MagnetColony.class.getDeclaredClasses()) {
            int modifiers = inside.getModifiers();
            Checks.due(inside + " is static", Modifier.isStatic(modifiers), true);
            Checks.due(inside + " is seen", Modifier.isPublic(modifiers) || Modifier.isProtected(modifiers), false);
        }
    }

    private static void staticFieldsAreConstants(Class<?> owner) {
        for (Field field : owner.getDeclaredFields()) {
            if (Modifier.isStatic(field.getModifiers())) {
                Checks.due(field + " is final", Modifier.isFinal(field.getModifiers()), true);
                Checks.due(field + " is primitive", field.getType().isPrimitive(), true);
            }
        }
    }
}
