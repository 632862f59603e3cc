import java.util.Arrays;
import java.util.NoSuchElementException;
import java.util.concurrent.Callable;

/** Colonies that several tests make, and ways to read them; a test extends this to use its names. */
abstract class Samples {
    static final Class<?> NO_INDEX = IndexOutOfBoundsException.class;
    static final Class<?> BAD_VALUE = IllegalArgumentException.class;
    static final Class<?> DENIED = UnsupportedOperationException.class;
    static final Class<?> NONE = NoSuchElementException.class;
    static final Class<?> BAD_STATE = IllegalStateException.class;
    static final Class<?> NO_DIVISOR = ArithmeticException.class;

    /** Sixteen tunnels, as many as may be: from each of 0 to 3 to each of 4 to 7. */
    static final int[] FOUR_BY_FOUR = {4, 5, 6, 7, 14, 15, 16, 17, 24, 25, 26, 27, 34, 35, 36, 37};
    /** Sixteen tunnels that no turns open: all pairs of 0 to 5, and a bridge from 6. */
    static final int[] KNOT = {1, 2, 3, 4, 5, 12, 13, 14, 15, 23, 24, 25, 34, 35, 45, 65};
    /** Arguments that are far from every limit. */
    static final int[] FAR_OFF = {Integer.MIN_VALUE, Integer.MIN_VALUE + 1, -100, 1000, Integer.MAX_VALUE};

    /** Magnets 0, 1, .. at positions 10, 20, .. with strengths 1, 2, .. and the poles of the text. */
    static MagnetColony colony(String poles) {
        MagnetColony x = new MagnetColony();
        for (int i = 0; i < poles.length(); i++) {
            x.addMagnet(10 * i + 10, i + 1, poles.charAt(i) == 'n');
        }
        return x;
    }

    /** The same with tunnels, each told by its two magnets. */
    static MagnetColony colony(String poles, int... tunnels) {
        MagnetColony x = colony(poles);
        for (int tunnel : tunnels) {
            x.dig(tunnel / 10, tunnel % 10);
        }
        return x;
    }

    /** Magnets told by position, pole and strength, as in "40n12 43s8". */
    static MagnetColony placed(String magnets) {
        MagnetColony x = new MagnetColony();
        for (String magnet : magnets.split(" ")) {
            String[] numbers = magnet.split("[ns]");
            x.addMagnet(Integer.parseInt(numbers[0]), Integer.parseInt(numbers[1]), magnet.contains("n"));
        }
        return x;
    }

    static String poles(MagnetColony x) {
        StringBuilder text = new StringBuilder();
        for (int i = 0; i < x.magnetCount(); i++) {
            text.append(x.pole(i));
        }
        return text.toString();
    }

    static String positions(MagnetColony x) {
        StringBuilder text = new StringBuilder();
        for (int i = 0; i < x.magnetCount(); i++) {
            text.append(i == 0 ? "" : " ").append(x.position(i));
        }
        return text.toString();
    }

    static String line(MagnetColony x, int magnet) {
        int length = x.writeMagnet(magnet);
        StringBuilder text = new StringBuilder();
        for (int i = 0; i < length; i++) {
            text.append(x.lineCharacter(i));
        }
        return text.toString();
    }

    /** All that is seen of magnets and tunnels, and the accounts. */
    static String all(MagnetColony x) {
        StringBuilder text = new StringBuilder();
        for (int i = 0; i < x.magnetCount(); i++) {
            text.append(line(x, i)).append(" turned ").append(x.turnsOf(i)).append(", ");
        }
        return text + "turns " + x.turnTotal() + ", moved " + x.moved() + ", tunnels " + x.tunnelCount();
    }

    static void feed(MagnetColony x, String text) {
        for (int i = 0; i < text.length(); i++) {
            x.feed(text.charAt(i));
        }
    }

    static void dueText(MagnetColony x, String text, int commands) {
        feed(x, text);
        Checks.due("execute of '" + text + "'", Checks.outcome(x::execute), String.valueOf(commands));
    }

    static void dueFault(String text, int fault) {
        MagnetColony x = colony("ns");
        feed(x, text);
        Checks.dueThrow("execute of '" + text + "'", BAD_VALUE, x::execute);
        Checks.due("the fault of '" + text + "'", x.faultPosition(), fault);
    }

    static void dueFailure(MagnetColony x, String text, int index, int cause) {
        feed(x, text);
        Checks.dueThrow("execute of '" + text + "'", DENIED, x::execute);
        dueDenial("'" + text + "'", x, 6, index);
        Checks.due("the cause of '" + text + "'", x.denialCause(), cause);
    }

    static void dueDenial(String what, MagnetColony x, int number, int detail) {
        Checks.due("denial of " + what, x.denial(), number);
        Checks.due("denialDetail of " + what, x.denialDetail(), detail);
    }

    static void dueNoDenial(String what, MagnetColony x) {
        Checks.dueThrow("denial " + what, NONE, x::denial);
        Checks.dueThrow("denialDetail " + what, NONE, x::denialDetail);
        Checks.dueThrow("denialCause " + what, NONE, x::denialCause);
    }

    /** The answer is due where the argument is allowed, and the exception where it is not. */
    static void dueWhere(boolean allowed, String what, Object want, Class<?> thrown, Callable<?> call) {
        Checks.due(what, Checks.outcome(call), allowed ? String.valueOf(want) : "throws " + thrown.getSimpleName());
    }

    /** The numbers around both limits, and some far off. */
    static int[] around(int lowest, int highest) {
        int[] near = {lowest - 2, lowest - 1, lowest, lowest + 1, highest - 1, highest, highest + 1, highest + 2};
        int[] all = Arrays.copyOf(near, near.length + FAR_OFF.length);
        System.arraycopy(FAR_OFF, 0, all, near.length, FAR_OFF.length);
        return all;
    }
}
