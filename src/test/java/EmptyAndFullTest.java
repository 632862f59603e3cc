import java.util.concurrent.Callable;

/** Every call on the colony without magnets, and on the one that has as many of everything as may be. */
public final class EmptyAndFullTest extends Samples {
    public static void main(String[] args) {
        dueOfEmpty("new", new MagnetColony());
        dueOfEmpty("undone", undone());
        changesOfTheEmpty();
        textsOfTheEmpty();
        magnetsOfTheFull();
        tunnelsOfTheFull();
        fieldsOfTheFull();
        changesOfTheFull();
        Checks.finish("EmptyAndFullTest");
    }

    private static void due(String what, Callable<?> call, Object want) {
        Checks.due(what, Checks.outcome(call), String.valueOf(want));
    }

    // ---- the empty colony

    private static MagnetColony undone() {
        MagnetColony x = new MagnetColony();
        feed(x, "magnet 5 5n;magnet 9 9n;dig 0-1;settle;move;turn 1");
        x.execute();
        x.undo();
        return x;
    }

    private static void dueOfEmpty(String which, MagnetColony x) {
        due(which + " magnetCount", x::magnetCount, 0);
        due(which + " tunnelCount", x::tunnelCount, 0);
        due(which + " blocked", x::blocked, 0);
        due(which + " parts", x::parts, 0);
        due(which + " bridges", x::bridges, 0);
        due(which + " bridgesByFilling", x::bridgesByFilling, 0);
        due(which + " canSettle", x::canSettle, true);
        due(which + " canSettleByUnions", x::canSettleByUnions, true);
        due(which + " fewestTurns", x::fewestTurns, 0);
        due(which + " fewestTurnsBySets", x::fewestTurnsBySets, 0);
        due(which + " leastBlocked", x::leastBlocked, 0);
        due(which + " leastBlockedByBounds", x::leastBlockedByBounds, 0);
        due(which + " field 0", () -> x.field(0), 0.0);
        due(which + " field 99", () -> x.field(99), 0.0);
        due(which + " turnTotal", x::turnTotal, 0);
        due(which + " moved", x::moved, 0);
        due(which + " undoCount", x::undoCount, 0);
        Checks.dueThrow(which + " position", NO_INDEX, () -> x.position(0));
        Checks.dueThrow(which + " strength", NO_INDEX, () -> x.strength(0));
        Checks.dueThrow(which + " pole", NO_INDEX, () -> x.pole(0));
        Checks.dueThrow(which + " magnetAt", NONE, () -> x.magnetAt(5));
        Checks.dueThrow(which + " magnetByStrength", NONE, () -> x.magnetByStrength(0));
        Checks.dueThrow(which + " isOpen", NO_INDEX, () -> x.isOpen(0));
        Checks.dueThrow(which + " walk", NO_INDEX, () -> x.walk(0, 0));
        Checks.dueThrow(which + " force", NO_INDEX, () -> x.force(0));
        Checks.dueThrow(which + " wholeForce", NO_INDEX, () -> x.wholeForce(0));
        Checks.dueThrow(which + " strongestPosition", NONE, x::strongestPosition);
        Checks.dueThrow(which + " queen", NONE, x::queen);
        Checks.dueThrow(which + " meanStrength", NO_DIVISOR, x::meanStrength);
        Checks.dueThrow(which + " openShare", NO_DIVISOR, x::openShare);
        Checks.dueThrow(which + " turnsOf", NO_INDEX, () -> x.turnsOf(0));
        Checks.dueThrow(which + " faultPosition", NONE, x::faultPosition);
        Checks.dueThrow(which + " writeMagnet", NO_INDEX, () -> x.writeMagnet(0));
        Checks.dueThrow(which + " lineCharacter", NO_INDEX, () -> x.lineCharacter(0));
        Checks.dueThrow(which + " undo", BAD_STATE, x::undo);
        Checks.dueThrow(which + " restoreSnapshot", BAD_STATE, x::restoreSnapshot);
        dueNoDenial(which, x);
    }

    private static void changesOfTheEmpty() {
        MagnetColony x = new MagnetColony();
        Checks.dueThrow("setStrength", NO_INDEX, () -> x.setStrength(0, 5));
        Checks.dueThrow("turn", NO_INDEX, () -> x.turn(0));
        Checks.dueThrow("dig", NO_INDEX, () -> x.dig(0, 1));
        Checks.dueThrow("fill", NO_INDEX, () -> x.fill(0));
        due("undoCount after them", x::undoCount, 0);
        due("shift", () -> x.shift(0), 0);
        due("move", x::move, 0);
        due("undoCount after shift and move", x::undoCount, 2);
        Checks.dueThrow("settle", DENIED, x::settle);
        dueDenial("settle", x, 5, 0);
        due("saveSnapshot", x::saveSnapshot, 0);
        due("undo", x::undo, 1);
        due("restoreSnapshot", x::restoreSnapshot, 0);
        due("addMagnet", () -> x.addMagnet(0, 1, false), 0);
    }

    private static void textsOfTheEmpty() {
        MagnetColony x = new MagnetColony();
        Checks.dueThrow("execute of no text", BAD_VALUE, x::execute);
        due("faultPosition", x::faultPosition, 0);
        dueText(x, "move;shift 0", 2);
        dueFailure(x, "settle", 0, 5);
        dueFailure(x, "fill 0", 0, 7);
        dueFailure(x, "turn 0", 0, 7);
        dueFailure(x, "dig 0-0", 0, 7);
        dueFailure(x, "strength 0=1", 0, 7);
        dueText(x, "magnet 0 1n", 1);
    }

    // ---- the full colony

    private static MagnetColony full() {
        MagnetColony x = placed("0n1 11n5 22s30 33n9 44s2 55s30 66n7 77s8 99n30");
        for (int tunnel : FOUR_BY_FOUR) {
            x.dig(tunnel / 10, tunnel % 10);
        }
        return x;
    }

    private static void magnetsOfTheFull() {
        MagnetColony x = full();
        due("magnetCount", x::magnetCount, 9);
        due("positions", () -> positions(x), "0 11 22 33 44 55 66 77 99");
        due("poles", () -> poles(x), "nnsnssnsn");
        due("strength 8", () -> x.strength(8), 30);
        due("magnetAt 99", () -> x.magnetAt(99), 8);
        Checks.dueThrow("magnetAt 98", NONE, () -> x.magnetAt(98));
        int[] ranked = {2, 5, 8, 3, 7, 6, 1, 4, 0};
        for (int rank = 0; rank < 9; rank++) {
            Checks.due("rank " + rank, x.magnetByStrength(rank), ranked[rank]);
        }
        Checks.dueThrow("rank 9", NONE, () -> x.magnetByStrength(9));
        Checks.dueThrow("position 9", NO_INDEX, () -> x.position(9));
        due("undoCount", x::undoCount, 8);
        due("line of 0", () -> line(x, 0), "0@0n1=4=5#6=7");
        due("line of 7", () -> line(x, 7), "7@77s8=0=1#2=3");
        due("line of 8", () -> line(x, 8), "8@99n30");
    }

    private static void tunnelsOfTheFull() {
        MagnetColony x = full();
        due("tunnelCount", x::tunnelCount, 16);
        due("isOpen 0", () -> x.isOpen(0), true);
        due("isOpen 2", () -> x.isOpen(2), false);
        due("isOpen 15", () -> x.isOpen(15), true);
        Checks.dueThrow("isOpen 16", NO_INDEX, () -> x.isOpen(16));
        due("blocked", x::blocked, 6);
        due("openShare", x::openShare, 0.625f);
        due("parts", x::parts, 2);
        due("walk 0 3", () -> x.walk(0, 3), 2);
        due("walk 2 6", () -> x.walk(2, 6), 1);
        Checks.dueThrow("walk 0 2", NONE, () -> x.walk(0, 2));
        Checks.dueThrow("walk 0 8", NONE, () -> x.walk(0, 8));
        due("walk 8 8", () -> x.walk(8, 8), 0);
        due("bridges", x::bridges, 0);
        due("bridgesByFilling", x::bridgesByFilling, 0);
        due("canSettle", x::canSettle, true);
        due("canSettleByUnions", x::canSettleByUnions, true);
        due("fewestTurns", x::fewestTurns, 2);
        due("fewestTurnsBySets", x::fewestTurnsBySets, 2);
        due("leastBlocked", x::leastBlocked, 0);
        due("leastBlockedByBounds", x::leastBlockedByBounds, 0);
    }

    private static void fieldsOfTheFull() {
        MagnetColony x = full();
        float[] forces = {0.02002851478755474f, 1.252921223640442f, 0.16026736795902252f, -1.5061982870101929f,
            -0.4968090057373047f, 2.3816115856170654f, -1.5319329500198364f, 0.5752346515655518f,
            -0.8551230430603027f};
        for (int magnet = 0; magnet < 9; magnet++) {
            Checks.due("force " + magnet, x.force(magnet), forces[magnet]);
            Checks.due("wholeForce " + magnet, x.wholeForce(magnet), (int) forces[magnet]);
        }
        due("field 0", () -> x.field(0), 0.09877950215011716);
        due("field 50", () -> x.field(50), -4.949538781029653);
        due("field 99", () -> x.field(99), 28.971568062478173);
        due("strongestPosition", x::strongestPosition, 55);
        due("queen", x::queen, 5);
        due("meanStrength", x::meanStrength, 122.0 / 9.0);
    }

    private static void changesOfTheFull() {
        MagnetColony x = full();
        Checks.dueThrow("addMagnet", DENIED, () -> x.addMagnet(1, 1, true));
        dueDenial("addMagnet", x, 1, 9);
        Checks.dueThrow("dig", DENIED, () -> x.dig(8, 0));
        dueDenial("dig", x, 1, 16);
        due("saveSnapshot", x::saveSnapshot, 9);
        due("settle", x::settle, 2);
        due("poles settled", () -> poles(x), "nnnnssssn");
        due("turn", () -> x.turn(8), 0);
        due("shift", () -> x.shift(0), 9);
        due("fill", () -> x.fill(15), 15);
        due("dig again", () -> x.dig(7, 3), 15);
        due("setStrength", () -> x.setStrength(0, 30), 1);
        due("turnTotal", x::turnTotal, 12);
        due("undoCount", x::undoCount, 8);
        due("restoreSnapshot", x::restoreSnapshot, 9);
        due("move", x::move, 9);
        due("positions", () -> positions(x), "1 12 21 32 43 56 65 78 98");
        due("moved", x::moved, 9);
        due("undo", x::undo, 0);
        due("moved after undo", x::moved, 0);
    }
}
