import java.util.function.Function;
import java.util.function.Supplier;

/** Each call that throws leaves all as it was: what later calls show is what they show without it. */
public final class RefusalTest extends Samples {
    public static void main(String[] args) {
        everyWrongIndex();
        everyWrongValue();
        everyCallOfAnEmptyColony();
        deniedMagnets();
        deniedTunnels();
        deniedSettlings();
        searchesForWhatIsNotThere();
        fullBuffers();
        refusedTexts();
        Checks.finish("RefusalTest");
    }

    // ---- colonies, each the same whenever it is made

    private static MagnetColony empty() {
        return new MagnetColony();
    }

    /** Three magnets in a triangle, with all that a refused call could spoil: a fault, a denial, a line, a text. */
    private static MagnetColony used() {
        MagnetColony x = placed("20n5 23s7 40n30");
        x.dig(0, 1);
        x.dig(1, 2);
        x.saveSnapshot();
        x.dig(2, 0);
        x.turn(1);
        x.move();
        x.undo();
        spoilable(x, "dig 0-1");
        return x;
    }

    private static MagnetColony full() {
        MagnetColony x = colony("nsnnssnss", FOUR_BY_FOUR);
        x.saveSnapshot();
        x.move();
        spoilable(x, "magnet 0 1n");
        return x;
    }

    private static MagnetColony settled() {
        MagnetColony x = colony("nnnnnnnnn", FOUR_BY_FOUR);
        x.settle();
        x.saveSnapshot();
        spoilable(x, "settle");
        return x;
    }

    private static void spoilable(MagnetColony x, String denied) {
        feed(x, "move;x");
        Checks.outcome(x::execute);
        feed(x, denied);
        Checks.outcome(x::execute);
        x.writeMagnet(0);
        feed(x, "turn 0;se");
    }

    // ---- what later calls show

    private static String denials(MagnetColony x) {
        return Checks.outcome(x::denial) + " " + Checks.outcome(x::denialDetail) + " "
                + Checks.outcome(x::denialCause);
    }

    private static String writtenLine(MagnetColony x) {
        StringBuilder text = new StringBuilder();
        String character = Checks.outcome(() -> x.lineCharacter(0));
        for (int i = 1; character.length() == 1; i++) {
            text.append(character);
            int next = i;
            character = Checks.outcome(() -> x.lineCharacter(next));
        }
        return text.toString();
    }

    private static String brief(MagnetColony x) {
        return x.magnetCount() + " " + x.tunnelCount() + " " + x.blocked() + " " + x.turnTotal() + " " + x.moved()
                + " " + Checks.outcome(x::meanStrength) + "; ";
    }

    /** What changes can change, and the way back: this undoes and restores all that it can. */
    private static String stateOf(MagnetColony x) {
        StringBuilder text = new StringBuilder(all(x));
        text.append(", undoCount ").append(x.undoCount()).append("; ");
        for (int i = 0; i < 9; i++) {
            text.append(Checks.outcome(x::undo)).append(": ").append(brief(x));
        }
        return text.append(Checks.outcome(x::restoreSnapshot)).append(": ").append(brief(x)).toString();
    }

    /** What changes can't change, but for the latest denial: this executes the text. */
    private static String textsOf(MagnetColony x) {
        StringBuilder text = new StringBuilder("line " + writtenLine(x));
        text.append(", fault ").append(Checks.outcome(x::faultPosition));
        text.append(", feed ").append(Checks.outcome(() -> x.feed('t')));
        text.append(", execute ").append(Checks.outcome(x::execute));
        return text.append(", fault ").append(Checks.outcome(x::faultPosition)).toString();
    }

    private static void dueThrown(String what, Supplier<MagnetColony> sample, Class<?> thrown,
            Function<MagnetColony, Object> call) {
        MagnetColony x = sample.get();
        Checks.dueThrow(what, thrown, () -> call.apply(x));
        Checks.due("the texts after " + what, textsOf(x), textsOf(sample.get()));
        MagnetColony y = sample.get();
        Checks.outcome(() -> call.apply(y));
        Checks.due("the state after " + what, stateOf(y), stateOf(sample.get()));
    }

    /** Thrown without a denial, so that the latest one is kept. */
    private static void dueRefused(String what, Supplier<MagnetColony> sample, Class<?> thrown,
            Function<MagnetColony, Object> call) {
        dueThrown(what, sample, thrown, call);
        MagnetColony x = sample.get();
        Checks.outcome(() -> call.apply(x));
        Checks.due("the denial after " + what, denials(x), denials(sample.get()));
    }

    private static void dueDenied(String what, Supplier<MagnetColony> sample, int number, int detail,
            Function<MagnetColony, Object> call) {
        dueThrown(what, sample, DENIED, call);
        MagnetColony x = sample.get();
        Checks.outcome(() -> call.apply(x));
        Checks.due("the denial after " + what, denials(x), number + " " + detail + " throws NoSuchElementException");
    }

    // ---- indices and values

    private static void everyWrongIndex() {
        for (int index : new int[] {-1, 3, Integer.MIN_VALUE, Integer.MAX_VALUE}) {
            wrongMagnet("used", RefusalTest::used, index);
            wrongTunnel("used", RefusalTest::used, index);
        }
        wrongMagnet("full", RefusalTest::full, -1);
        wrongMagnet("full", RefusalTest::full, 9);
        wrongTunnel("full", RefusalTest::full, -1);
        wrongTunnel("full", RefusalTest::full, 16);
        for (int index : new int[] {-1, 10, Integer.MIN_VALUE, Integer.MAX_VALUE}) {
            dueRefused("lineCharacter " + index, RefusalTest::used, NO_INDEX, x -> x.lineCharacter(index));
        }
    }

    private static void wrongMagnet(String which, Supplier<MagnetColony> sample, int magnet) {
        String of = " of " + magnet + ", " + which;
        dueRefused("setStrength" + of, sample, NO_INDEX, x -> x.setStrength(magnet, 9));
        dueRefused("setStrength to 0" + of, sample, NO_INDEX, x -> x.setStrength(magnet, 0));
        dueRefused("turn" + of, sample, NO_INDEX, x -> x.turn(magnet));
        dueRefused("position" + of, sample, NO_INDEX, x -> x.position(magnet));
        dueRefused("strength" + of, sample, NO_INDEX, x -> x.strength(magnet));
        dueRefused("pole" + of, sample, NO_INDEX, x -> x.pole(magnet));
        dueRefused("magnetByStrength" + of, sample, NONE, x -> x.magnetByStrength(magnet));
        dueRefused("dig from" + of, sample, NO_INDEX, x -> x.dig(magnet, 0));
        dueRefused("dig to" + of, sample, NO_INDEX, x -> x.dig(0, magnet));
        dueRefused("dig to itself" + of, sample, NO_INDEX, x -> x.dig(magnet, magnet));
        dueRefused("walk from" + of, sample, NO_INDEX, x -> x.walk(magnet, 0));
        dueRefused("walk to" + of, sample, NO_INDEX, x -> x.walk(0, magnet));
        dueRefused("walk to itself" + of, sample, NO_INDEX, x -> x.walk(magnet, magnet));
        dueRefused("force" + of, sample, NO_INDEX, x -> x.force(magnet));
        dueRefused("wholeForce" + of, sample, NO_INDEX, x -> x.wholeForce(magnet));
        dueRefused("turnsOf" + of, sample, NO_INDEX, x -> x.turnsOf(magnet));
        dueRefused("writeMagnet" + of, sample, NO_INDEX, x -> x.writeMagnet(magnet));
    }

    private static void wrongTunnel(String which, Supplier<MagnetColony> sample, int tunnel) {
        dueRefused("fill " + tunnel + ", " + which, sample, NO_INDEX, x -> x.fill(tunnel));
        dueRefused("isOpen " + tunnel + ", " + which, sample, NO_INDEX, x -> x.isOpen(tunnel));
    }

    private static void everyWrongValue() {
        for (int position : new int[] {-1, 100, Integer.MIN_VALUE, Integer.MAX_VALUE}) {
            dueRefused("addMagnet at " + position, RefusalTest::used, BAD_VALUE, x -> x.addMagnet(position, 5, true));
            dueRefused("addMagnet at " + position + ", full", RefusalTest::full, BAD_VALUE,
                    x -> x.addMagnet(position, 5, true));
            dueRefused("shift at " + position, RefusalTest::used, BAD_VALUE, x -> x.shift(position));
            dueRefused("magnetAt " + position, RefusalTest::used, BAD_VALUE, x -> x.magnetAt(position));
            dueRefused("field " + position, RefusalTest::used, BAD_VALUE, x -> x.field(position));
        }
        for (int strength : new int[] {0, 31, Integer.MIN_VALUE, Integer.MAX_VALUE}) {
            dueRefused("addMagnet of " + strength, RefusalTest::used, BAD_VALUE, x -> x.addMagnet(50, strength, true));
            dueRefused("addMagnet of " + strength + " where one is", RefusalTest::used, BAD_VALUE,
                    x -> x.addMagnet(20, strength, true));
            dueRefused("setStrength to " + strength, RefusalTest::used, BAD_VALUE, x -> x.setStrength(2, strength));
        }
        dueRefused("dig to itself", RefusalTest::used, BAD_VALUE, x -> x.dig(1, 1));
        dueRefused("dig to itself, full", RefusalTest::full, BAD_VALUE, x -> x.dig(8, 8));
    }

    // ---- the empty colony

    private static void everyCallOfAnEmptyColony() {
        wrongMagnet("empty", RefusalTest::empty, 0);
        wrongTunnel("empty", RefusalTest::empty, 0);
        dueRefused("magnetAt 0", RefusalTest::empty, NONE, x -> x.magnetAt(0));
        dueRefused("strongestPosition", RefusalTest::empty, NONE, x -> x.strongestPosition());
        dueRefused("queen", RefusalTest::empty, NONE, x -> x.queen());
        dueRefused("meanStrength", RefusalTest::empty, NO_DIVISOR, x -> x.meanStrength());
        dueRefused("openShare", RefusalTest::empty, NO_DIVISOR, x -> x.openShare());
        dueRefused("faultPosition", RefusalTest::empty, NONE, x -> x.faultPosition());
        dueRefused("lineCharacter", RefusalTest::empty, NO_INDEX, x -> x.lineCharacter(0));
        dueRefused("denial", RefusalTest::empty, NONE, x -> x.denial());
        dueRefused("denialDetail", RefusalTest::empty, NONE, x -> x.denialDetail());
        dueRefused("denialCause", RefusalTest::empty, NONE, x -> x.denialCause());
        dueRefused("undo", RefusalTest::empty, BAD_STATE, x -> x.undo());
        dueRefused("restoreSnapshot", RefusalTest::empty, BAD_STATE, x -> x.restoreSnapshot());
        dueDenied("settle", RefusalTest::empty, 5, 0, x -> x.settle());
    }

    // ---- denials

    private static void deniedMagnets() {
        dueDenied("a tenth magnet", RefusalTest::full, 1, 9, x -> x.addMagnet(0, 5, true));
        dueDenied("a tenth magnet where one is", RefusalTest::full, 1, 9, x -> x.addMagnet(x.position(8), 5, true));
        dueDenied("a position of 0", RefusalTest::used, 2, 0, x -> x.addMagnet(20, 5, true));
        dueDenied("a position of 2", RefusalTest::used, 2, 2, x -> x.addMagnet(40, 30, false));
    }

    private static void deniedTunnels() {
        dueDenied("a seventeenth tunnel", RefusalTest::full, 1, 16, x -> x.dig(8, 0));
        dueDenied("a tunnel that is there, full", RefusalTest::full, 3, 15, x -> x.dig(7, 3));
        dueDenied("a tunnel that is there", RefusalTest::used, 3, 1, x -> x.dig(1, 2));
        dueDenied("a tunnel that is there, from the other side", RefusalTest::used, 3, 2, x -> x.dig(0, 2));
    }

    private static void deniedSettlings() {
        dueDenied("a triangle", RefusalTest::used, 4, 3, x -> x.settle());
        dueDenied("all that are open", RefusalTest::settled, 5, 16, x -> x.settle());
    }

    private static void searchesForWhatIsNotThere() {
        dueRefused("fewestTurns", RefusalTest::used, NONE, x -> x.fewestTurns());
        dueRefused("fewestTurnsBySets", RefusalTest::used, NONE, x -> x.fewestTurnsBySets());
        dueRefused("walk", RefusalTest::used, NONE, x -> x.walk(0, 2));
        dueRefused("walk to another part", RefusalTest::settled, NONE, x -> x.walk(0, 8));
        dueRefused("magnetAt", RefusalTest::used, NONE, x -> x.magnetAt(99));
        dueRefused("magnetByStrength", RefusalTest::full, NONE, x -> x.magnetByStrength(9));
        dueRefused("openShare", () -> colony("ns"), NO_DIVISOR, x -> x.openShare());
        dueRefused("denialCause", () -> {
            MagnetColony x = colony("ns");
            Checks.outcome(x::settle);
            return x;
        }, NONE, x -> x.denialCause());
        dueRefused("restoreSnapshot", () -> colony("ns", 1), BAD_STATE, x -> x.restoreSnapshot());
        dueRefused("undo", () -> {
            MagnetColony x = used();
            x.restoreSnapshot();
            return x;
        }, BAD_STATE, x -> x.undo());
    }

    // ---- texts

    private static void fullBuffers() {
        Supplier<MagnetColony> sample = () -> {
            MagnetColony x = used();
            feed(x, "ttle");
            for (int i = 13; i < 60; i++) {
                x.feed(';');
            }
            return x;
        };
        dueRefused("feed", sample, BAD_STATE, x -> x.feed('t'));
    }

    /** A refused text empties the buffer, and a text with a fault sets the position: all else is as it was. */
    private static void refusedTexts() {
        String[] faults = {"", "x", "turn 0;x", "move;move;", "shift 0;magnet 50 5n;turn 9;"};
        for (String fault : faults) {
            dueRefusedText(fault, BAD_VALUE, denials(used()));
        }
        dueRefusedText("turn 3", DENIED, "6 0 7");
        dueRefusedText("turn 0;strength 1=30;shift 0;fill 2;move;fill 2", DENIED, "6 5 7");
        dueRefusedText("magnet 50 5n;dig 3-0;settle", DENIED, "6 2 4");
        dueRefusedText("turn 0;fill 0;settle;settle", DENIED, "6 3 5");
        dueRefusedText("magnet 50 5n;magnet 50 6n", DENIED, "6 1 2");
        dueRefusedText("fill 1;dig 0-2", DENIED, "6 1 3");
    }

    private static void dueRefusedText(String text, Class<?> thrown, String denials) {
        MagnetColony x = emptied(used());
        feed(x, text);
        Checks.dueThrow("execute of '" + text + "'", thrown, x::execute);
        Checks.due("the denial after '" + text + "'", denials(x), denials);
        Checks.due("the line after '" + text + "'", writtenLine(x), writtenLine(used()));
        Checks.due("the buffer after '" + text + "'", x.feed('t'), 1);
        Checks.due("the state after '" + text + "'", stateOf(x), stateOf(used()));
    }

    /** Without the text, but with the denial that came before it. */
    private static MagnetColony emptied(MagnetColony x) {
        Checks.dueThrow("execute of a text that ends too early", BAD_VALUE, x::execute);
        return x;
    }
}
