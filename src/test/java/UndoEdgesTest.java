import java.util.function.Consumer;

/** Each sentence on denials, undo and snapshots that names an edge. */
public final class UndoEdgesTest extends Samples {
    private static final String NINE = "0n1 11s2 22n3 33s4 44n5 55s6 66n7 77s8 99n30";

    public static void main(String[] args) {
        nothingWasDeniedYet();
        eachNumberWithItsDetail();
        onlyDenial6HasACause();
        eachCauseOfDenial6();
        theLatestDenialIsKept();
        theLatestDenialReplacesTheOneBefore();
        otherExceptionsAreNoDenials();
        nothingToUndo();
        theLatestEightChanges();
        eachKindOfChangeIsUndone();
        changesThatChangeNothing();
        whatThrowsIsNoChange();
        whatIsNoChange();
        aTextIsOneChange();
        undoIsNoChange();
        manyMoreThanEightChanges();
        undoTakesTheAccountsBack();
        undoLeavesTextsLinesAndDenials();
        noSnapshotYet();
        aSnapshotOfNoneAndOfNine();
        aSnapshotReplacesTheEarlierOne();
        theSnapshotIsKept();
        laterChangesLeaveTheSnapshot();
        noChangeCanBeUndoneAfterRestoring();
        changesAfterRestoring();
        aSnapshotHoldsTheAccounts();
        snapshotsLeaveTextsLinesAndDenials();
        theLastOf512Calls();
        oneObjectLeavesAnother();
        Checks.finish("UndoEdgesTest");
    }

    // ---- promises 44 to 46: the latest denial

    private static void nothingWasDeniedYet() {
        dueNoDenial("of a new colony", new MagnetColony());
        dueNoDenial("after changes that are not denied", colony("nsn", 1, 12));
        MagnetColony x = colony("nn", 1);
        dueText(x, "settle;turn 0;move", 3);
        dueNoDenial("after a text that is not denied", x);
    }

    private static void eachNumberWithItsDetail() {
        MagnetColony x = colony("nnnnnnnn", FOUR_BY_FOUR);
        Checks.dueThrow("dig", DENIED, () -> x.dig(0, 1));
        dueDenial("sixteen tunnels", x, 1, 16);
        Checks.dueThrow("addMagnet", DENIED, () -> x.addMagnet(10, 5, true));
        dueDenial("the position of magnet 0", x, 2, 0);
        Checks.dueThrow("addMagnet", DENIED, () -> x.addMagnet(80, 5, true));
        dueDenial("the position of magnet 7", x, 2, 7);
        x.addMagnet(90, 5, true);
        Checks.dueThrow("addMagnet", DENIED, () -> x.addMagnet(99, 5, true));
        dueDenial("nine magnets", x, 1, 9);
        Checks.dueThrow("dig", DENIED, () -> x.dig(4, 0));
        dueDenial("the first tunnel", x, 3, 0);
        Checks.dueThrow("dig", DENIED, () -> x.dig(3, 7));
        dueDenial("the last tunnel", x, 3, 15);
        x.fill(15);
        x.dig(0, 1);
        Checks.dueThrow("settle", DENIED, x::settle);
        dueDenial("sixteen that are blocked", x, 4, 16);
        x.undo();
        x.settle();
        Checks.dueThrow("settle", DENIED, x::settle);
        dueDenial("fifteen that are open", x, 5, 15);
        dueFailure(x, "settle", 0, 5);
        dueFailure(x, "move;move;move;move;move;move;move;move;move;move;settle", 10, 5);
    }

    private static void onlyDenial6HasACause() {
        MagnetColony x = colony("nn", 1);
        Checks.dueThrow("dig", DENIED, () -> x.dig(0, 1));
        Checks.dueThrow("the cause of denial 3", NONE, x::denialCause);
        Checks.dueThrow("addMagnet", DENIED, () -> x.addMagnet(10, 1, true));
        Checks.dueThrow("the cause of denial 2", NONE, x::denialCause);
        x.turn(0);
        Checks.dueThrow("settle", DENIED, x::settle);
        Checks.dueThrow("the cause of denial 5", NONE, x::denialCause);
        dueFailure(x, "move;turn 2", 1, 7);
        MagnetColony triangle = colony("nnn", 1, 12, 20);
        Checks.dueThrow("settle", DENIED, triangle::settle);
        Checks.dueThrow("the cause of denial 4", NONE, triangle::denialCause);
        MagnetColony nine = placed(NINE);
        Checks.dueThrow("addMagnet", DENIED, () -> nine.addMagnet(1, 1, true));
        Checks.dueThrow("the cause of denial 1", NONE, nine::denialCause);
    }

    private static void eachCauseOfDenial6() {
        dueFailure(placed(NINE), "magnet 1 1n", 0, 1);
        dueFailure(placed(NINE), "magnet 0 1n", 0, 1);
        dueFailure(placed("5n1"), "magnet 5 1n", 0, 2);
        dueFailure(colony("nn", 1), "dig 0-1", 0, 3);
        dueFailure(colony("nnn", 1, 12, 20), "settle", 0, 4);
        dueFailure(colony("ns", 1), "settle", 0, 5);
        dueFailure(colony("ns", 1), "dig 0-0", 0, 7);
        dueFailure(colony("ns", 1), "dig 0-2", 0, 7);
        dueFailure(colony("ns", 1), "fill 1", 0, 7);
        dueFailure(colony("ns", 1), "turn 2", 0, 7);
        dueFailure(colony("ns", 1), "strength 2=1", 0, 7);
        dueFailure(colony("ns", 1), "strength 0=0", 0, 7);
        dueFailure(colony("ns", 1), "magnet 10 0n", 0, 7);
    }

    private static void theLatestDenialIsKept() {
        MagnetColony x = colony("nn", 1);
        dueFailure(x, "move;dig 0-1", 1, 3);
        x.addMagnet(99, 9, true);
        x.setStrength(0, 3);
        x.turn(0);
        x.shift(0);
        x.move();
        x.dig(1, 2);
        x.settle();
        x.fill(0);
        dueText(x, "turn 0;move", 2);
        x.undo();
        x.saveSnapshot();
        x.restoreSnapshot();
        x.writeMagnet(0);
        feed(x, "no text");
        Checks.dueThrow("execute of no text", BAD_VALUE, x::execute);
        dueDenial("what is kept", x, 6, 1);
        Checks.due("the cause that is kept", x.denialCause(), 3);
    }

    private static void theLatestDenialReplacesTheOneBefore() {
        MagnetColony x = colony("nn", 1);
        dueFailure(x, "move;dig 0-1", 1, 3);
        dueFailure(x, "turn 5", 0, 7);
        Checks.dueThrow("dig", DENIED, () -> x.dig(0, 1));
        dueDenial("the latest", x, 3, 0);
        Checks.dueThrow("it has no cause", NONE, x::denialCause);
        x.turn(0);
        Checks.dueThrow("settle", DENIED, x::settle);
        dueDenial("the latest of them", x, 5, 1);
        dueFailure(x, "move;move;settle", 2, 5);
    }

    private static void otherExceptionsAreNoDenials() {
        MagnetColony x = colony("nsn", 1, 12, 20);
        Checks.dueThrow("turn", NO_INDEX, () -> x.turn(3));
        Checks.dueThrow("setStrength", BAD_VALUE, () -> x.setStrength(0, 31));
        Checks.dueThrow("addMagnet", BAD_VALUE, () -> x.addMagnet(100, 1, true));
        Checks.dueThrow("shift", BAD_VALUE, () -> x.shift(100));
        Checks.dueThrow("dig", BAD_VALUE, () -> x.dig(0, 0));
        Checks.dueThrow("fill", NO_INDEX, () -> x.fill(3));
        Checks.dueThrow("fewestTurns", NONE, x::fewestTurns);
        Checks.dueThrow("fewestTurnsBySets", NONE, x::fewestTurnsBySets);
        Checks.dueThrow("walk", NO_INDEX, () -> x.walk(0, 3));
        Checks.dueThrow("restoreSnapshot", BAD_STATE, x::restoreSnapshot);
        Checks.dueThrow("execute", BAD_VALUE, x::execute);
        dueNoDenial("after other exceptions", x);
    }

    // ---- promises 47 and 48: undo

    private static void nothingToUndo() {
        MagnetColony x = new MagnetColony();
        Checks.due("undoCount of a new colony", x.undoCount(), 0);
        Checks.dueThrow("undo of a new colony", BAD_STATE, x::undo);
        x.addMagnet(5, 5, true);
        Checks.due("undoCount of one", x.undoCount(), 1);
        Checks.due("undo of one", x.undo(), 0);
        Checks.dueThrow("undo once more", BAD_STATE, x::undo);
        Checks.due("undoCount after it", x.undoCount(), 0);
        Checks.due("magnetCount after it", x.magnetCount(), 0);
    }

    private static void theLatestEightChanges() {
        for (int changes = 7; changes <= 10; changes++) {
            MagnetColony x = new MagnetColony();
            x.addMagnet(50, 1, true);
            for (int change = 1; change < changes; change++) {
                x.setStrength(0, change + 1);
            }
            int kept = Math.min(changes, 8);
            Checks.due("undoCount of " + changes, x.undoCount(), kept);
            for (int undone = 1; undone <= kept; undone++) {
                Checks.due("undo " + undone + " of " + changes, x.undo(), kept - undone);
                Checks.due("magnets before it", x.magnetCount(), undone < changes ? 1 : 0);
                dueWhere(undone < changes, "strength before it", changes - undone, NO_INDEX, () -> x.strength(0));
            }
            Checks.dueThrow("undo of what is forgotten", BAD_STATE, x::undo);
        }
    }

    private static void eachKindOfChangeIsUndone() {
        dueUndone("addMagnet", x -> x.addMagnet(99, 30, true));
        dueUndone("setStrength", x -> x.setStrength(0, 30));
        dueUndone("turn", x -> x.turn(3));
        dueUndone("shift", x -> x.shift(20));
        dueUndone("move", x -> x.move());
        dueUndone("dig", x -> x.dig(3, 0));
        dueUndone("fill", x -> x.fill(0));
        dueUndone("settle", x -> x.settle());
        dueUndone("execute", x -> dueText(x, "magnet 1 1n;dig 4-0;fill 0;shift 0;move", 5));
    }

    private static void dueUndone(String what, Consumer<MagnetColony> change) {
        MagnetColony x = colony("nnss", 1, 12);
        String before = all(x);
        change.accept(x);
        Checks.due(what + " changes something", all(x).equals(before), false);
        Checks.due(what + " is a change", x.undoCount(), 7);
        Checks.due("undo of " + what, x.undo(), 6);
        Checks.due("all after undo of " + what, all(x), before);
    }

    private static void changesThatChangeNothing() {
        MagnetColony x = new MagnetColony();
        x.move();
        Checks.due("move of none", x.undoCount(), 1);
        x.shift(0);
        Checks.due("shift of none", x.undoCount(), 2);
        dueText(x, "move;shift 0", 2);
        Checks.due("a text of both", x.undoCount(), 3);
        x.addMagnet(5, 5, true);
        x.setStrength(0, 5);
        Checks.due("setStrength to the same", x.undoCount(), 5);
        Checks.due("undo of it", x.undo(), 4);
        Checks.due("the magnet is there", x.magnetCount(), 1);
    }

    private static void whatThrowsIsNoChange() {
        MagnetColony x = colony("nsn", 1, 12);
        Checks.dueThrow("addMagnet", BAD_VALUE, () -> x.addMagnet(100, 1, true));
        Checks.dueThrow("addMagnet", DENIED, () -> x.addMagnet(10, 1, true));
        Checks.dueThrow("setStrength", BAD_VALUE, () -> x.setStrength(0, 0));
        Checks.dueThrow("setStrength", NO_INDEX, () -> x.setStrength(3, 1));
        Checks.dueThrow("turn", NO_INDEX, () -> x.turn(3));
        Checks.dueThrow("shift", BAD_VALUE, () -> x.shift(-1));
        Checks.dueThrow("dig", NO_INDEX, () -> x.dig(0, 3));
        Checks.dueThrow("dig", BAD_VALUE, () -> x.dig(2, 2));
        Checks.dueThrow("dig", DENIED, () -> x.dig(1, 0));
        Checks.dueThrow("fill", NO_INDEX, () -> x.fill(2));
        Checks.dueThrow("settle", DENIED, x::settle);
        Checks.dueThrow("execute", BAD_VALUE, x::execute);
        dueFailure(x, "turn 0;settle;settle", 2, 5);
        Checks.due("undoCount", x.undoCount(), 5);
        Checks.due("undo of the last that did not throw", x.undo(), 4);
        Checks.due("tunnelCount before it", x.tunnelCount(), 1);
    }

    private static void whatIsNoChange() {
        MagnetColony x = colony("ns", 1);
        String before = all(x);
        x.feed('m');
        x.writeMagnet(0);
        x.lineCharacter(0);
        x.saveSnapshot();
        x.queen();
        x.strongestPosition();
        x.leastBlocked();
        x.undoCount();
        Checks.due("undoCount", x.undoCount(), 3);
        Checks.due("all", all(x), before);
        Checks.due("undo of the last change", x.undo(), 2);
        Checks.due("tunnelCount before it", x.tunnelCount(), 0);
    }

    private static void aTextIsOneChange() {
        MagnetColony x = colony("n");
        dueText(x, "turn 0;turn 0;turn 0;turn 0;turn 0;turn 0", 6);
        Checks.due("undoCount after six commands", x.undoCount(), 2);
        dueText(x, "move;move;move;move;move;move;move;move;move;move;move;move", 12);
        Checks.due("undoCount after twelve commands", x.undoCount(), 3);
        Checks.due("undo of twelve commands", x.undo(), 2);
        Checks.due("turnTotal before them", x.turnTotal(), 6);
        Checks.due("undo of six commands", x.undo(), 1);
        Checks.due("turnTotal before all", x.turnTotal(), 0);
        for (int text = 1; text <= 8; text++) {
            dueText(x, "turn 0;turn 0;turn 0", 3);
            Checks.due("undoCount", x.undoCount(), Math.min(text + 1, 8));
        }
    }

    private static void undoIsNoChange() {
        MagnetColony x = colony("n");
        x.turn(0);
        x.turn(0);
        x.turn(0);
        Checks.due("undo", x.undo(), 3);
        Checks.due("undo again", x.undo(), 2);
        Checks.due("goes further back", x.turnTotal(), 1);
        x.shift(0);
        Checks.due("a change takes the place of those undone", x.undoCount(), 3);
        Checks.due("undo of it", x.undo(), 2);
        Checks.due("leads to the state before", x.turnTotal(), 1);
        Checks.due("undo of the first turn", x.undo(), 1);
        Checks.due("pole", x.pole(0), 'n');
    }

    private static void manyMoreThanEightChanges() {
        MagnetColony x = placed("50n1");
        for (int round = 0; round < 5; round++) {
            for (int strength = 1; strength <= 11; strength++) {
                x.setStrength(0, strength);
            }
            Checks.due("undoCount", x.undoCount(), 8);
            for (int undone = 1; undone <= 8 - round; undone++) {
                Checks.due("undo", x.undo(), 8 - undone);
                Checks.due("strength", x.strength(0), 11 - undone);
            }
        }
    }

    private static void undoTakesTheAccountsBack() {
        MagnetColony x = placed("50n1 60n1");
        x.move();
        x.turn(1);
        x.shift(0);
        Checks.due("moved and turned", x.moved() + " " + x.turnTotal() + " " + x.turnsOf(1), "2 3 2");
        x.undo();
        Checks.due("before the shift", x.moved() + " " + x.turnTotal() + " " + x.turnsOf(1), "2 1 1");
        x.undo();
        Checks.due("before the turn", x.moved() + " " + x.turnTotal() + " " + x.turnsOf(1), "2 0 0");
        x.undo();
        Checks.due("before the move", x.moved() + " " + x.turnTotal() + " " + x.turnsOf(1), "0 0 0");
    }

    /** A colony with a text, a fault, a line and a denial that nothing below should touch. */
    private static MagnetColony marked() {
        MagnetColony x = colony("ns", 1);
        feed(x, "move;x");
        Checks.dueThrow("execute", BAD_VALUE, x::execute);
        dueFailure(x, "turn 0;turn 2", 1, 7);
        x.writeMagnet(1);
        x.turn(0);
        feed(x, "turn");
        return x;
    }

    private static void dueMarks(String what, MagnetColony x) {
        Checks.due("faultPosition " + what, x.faultPosition(), 5);
        dueDenial(what, x, 6, 1);
        Checks.due("denialCause " + what, x.denialCause(), 7);
        Checks.due("the line " + what, x.lineCharacter(0) + "" + x.lineCharacter(6), "1=");
        Checks.due("the buffer " + what, x.feed(' '), 5);
        x.feed('0');
        Checks.due("the text " + what, x.execute(), 1);
    }

    private static void undoLeavesTextsLinesAndDenials() {
        MagnetColony x = marked();
        x.undo();
        x.undo();
        dueMarks("after undo", x);
    }

    // ---- promises 49 and 50: snapshots

    private static void noSnapshotYet() {
        MagnetColony x = colony("ns");
        Checks.dueThrow("restoreSnapshot", BAD_STATE, x::restoreSnapshot);
        Checks.due("undoCount after it", x.undoCount(), 2);
        Checks.due("magnetCount after it", x.magnetCount(), 2);
        x.undo();
        Checks.dueThrow("restoreSnapshot after undo", BAD_STATE, x::restoreSnapshot);
    }

    private static void aSnapshotOfNoneAndOfNine() {
        MagnetColony x = new MagnetColony();
        Checks.due("saveSnapshot of none", x.saveSnapshot(), 0);
        x.addMagnet(5, 5, true);
        x.turn(0);
        Checks.due("restoreSnapshot of none", x.restoreSnapshot(), 0);
        Checks.due("nothing is left", all(x), "turns 0, moved 0, tunnels 0");
        Checks.due("addMagnet", x.addMagnet(5, 5, false), 0);
        Checks.due("it is new", all(x), "0@5s5 turned 0, turns 0, moved 0, tunnels 0");
        MagnetColony nine = colony("nsnsnsnsn", FOUR_BY_FOUR);
        nine.turn(8);
        String before = all(nine);
        Checks.due("saveSnapshot of nine", nine.saveSnapshot(), 9);
        for (int tunnel = 15; tunnel >= 0; tunnel--) {
            nine.fill(tunnel);
        }
        nine.shift(0);
        nine.setStrength(8, 30);
        nine.move();
        Checks.due("restoreSnapshot of nine", nine.restoreSnapshot(), 9);
        Checks.due("all of nine", all(nine), before);
    }

    private static void aSnapshotReplacesTheEarlierOne() {
        MagnetColony x = new MagnetColony();
        for (int magnets = 1; magnets <= 9; magnets++) {
            x.addMagnet(10 * magnets, 5, true);
            Checks.due("saveSnapshot", x.saveSnapshot(), magnets);
        }
        Checks.due("restoreSnapshot of the latest", x.restoreSnapshot(), 9);
        MagnetColony y = colony("nnn");
        y.saveSnapshot();
        y.undo();
        y.undo();
        Checks.due("saveSnapshot of less", y.saveSnapshot(), 1);
        y.addMagnet(99, 1, true);
        Checks.due("restoreSnapshot of less", y.restoreSnapshot(), 1);
    }

    private static void theSnapshotIsKept() {
        MagnetColony x = colony("ns", 1);
        String before = all(x);
        x.saveSnapshot();
        for (int time = 0; time < 3; time++) {
            x.turn(time % 2);
            x.move();
            Checks.due("restoreSnapshot", x.restoreSnapshot(), 2);
            Checks.due("all restored", all(x), before);
        }
        x.restoreSnapshot();
        Checks.due("all restored twice", all(x), before);
    }

    private static void laterChangesLeaveTheSnapshot() {
        MagnetColony x = colony("nn", 1);
        x.setStrength(0, 9);
        String saved = all(x);
        x.saveSnapshot();
        x.undo();
        x.undo();
        Checks.due("tunnelCount after undo", x.tunnelCount(), 0);
        Checks.due("restoreSnapshot after undo", x.restoreSnapshot(), 2);
        Checks.due("all that was undone", all(x), saved);
        dueText(x, "settle;fill 0;move;magnet 99 9n", 4);
        Checks.due("restoreSnapshot after a text", x.restoreSnapshot(), 2);
        Checks.due("all before the text", all(x), saved);
    }

    private static void noChangeCanBeUndoneAfterRestoring() {
        MagnetColony x = colony("ns", 1);
        x.saveSnapshot();
        Checks.due("undoCount after saving", x.undoCount(), 3);
        x.restoreSnapshot();
        Checks.due("undoCount after restoring", x.undoCount(), 0);
        Checks.dueThrow("undo after restoring", BAD_STATE, x::undo);
        Checks.due("magnetCount", x.magnetCount(), 2);
    }

    private static void changesAfterRestoring() {
        MagnetColony x = placed("50n1");
        x.saveSnapshot();
        for (int strength = 2; strength <= 6; strength++) {
            x.setStrength(0, strength);
        }
        x.restoreSnapshot();
        for (int strength = 11; strength <= 20; strength++) {
            x.setStrength(0, strength);
            Checks.due("undoCount", x.undoCount(), Math.min(strength - 10, 8));
        }
        for (int undone = 1; undone <= 8; undone++) {
            Checks.due("undo", x.undo(), 8 - undone);
            Checks.due("strength", x.strength(0), 20 - undone);
        }
        Checks.dueThrow("undo of what is forgotten", BAD_STATE, x::undo);
        x.restoreSnapshot();
        Checks.due("strength restored", x.strength(0), 1);
        x.turn(0);
        Checks.due("undo of the only change", x.undo(), 0);
        Checks.due("all", all(x), "0@50n1 turned 0, turns 0, moved 0, tunnels 0");
    }

    private static void aSnapshotHoldsTheAccounts() {
        MagnetColony x = placed("50n1 60n1");
        x.turn(1);
        x.move();
        x.saveSnapshot();
        x.shift(0);
        x.move();
        x.restoreSnapshot();
        Checks.due("accounts", x.moved() + " " + x.turnTotal() + " " + x.turnsOf(0) + " " + x.turnsOf(1), "2 1 0 1");
        x.saveSnapshot();
        x.turn(0);
        Checks.due("turnTotal goes on", x.turnTotal(), 2);
    }

    private static void snapshotsLeaveTextsLinesAndDenials() {
        MagnetColony x = marked();
        x.saveSnapshot();
        x.turn(0);
        x.restoreSnapshot();
        dueMarks("after snapshots", x);
        MagnetColony y = colony("ns");
        y.saveSnapshot();
        Checks.dueThrow("addMagnet", DENIED, () -> y.addMagnet(10, 1, true));
        y.writeMagnet(0);
        feed(y, "x");
        Checks.dueThrow("execute", BAD_VALUE, y::execute);
        y.feed('m');
        y.restoreSnapshot();
        dueDenial("that came after the snapshot", y, 2, 0);
        Checks.due("a line that came after the snapshot", y.lineCharacter(0), '0');
        Checks.due("a fault that came after the snapshot", y.faultPosition(), 0);
        Checks.due("a text that came after the snapshot", y.feed('o'), 2);
    }

    // ---- what an object is used for

    private static void theLastOf512Calls() {
        MagnetColony x = colony("ns", 1);
        for (int call = 4; call < 508; call += 2) {
            x.move();
            Checks.due("undo", x.undo(), 3);
        }
        Checks.due("call 508", x.turn(1), 1);
        Checks.due("call 509", x.undo(), 3);
        Checks.due("call 510", x.saveSnapshot(), 2);
        Checks.due("call 511", x.restoreSnapshot(), 2);
        Checks.due("call 512", x.pole(1), 's');
    }

    private static void oneObjectLeavesAnother() {
        MagnetColony x = colony("nn", 1);
        MagnetColony y = new MagnetColony();
        x.saveSnapshot();
        dueFailure(x, "turn 2", 0, 7);
        feed(x, "x");
        Checks.dueThrow("execute", BAD_VALUE, x::execute);
        x.writeMagnet(0);
        x.feed('m');
        Checks.due("magnetCount of the other", y.magnetCount(), 0);
        Checks.due("undoCount of the other", y.undoCount(), 0);
        dueNoDenial("of the other", y);
        Checks.dueThrow("faultPosition of the other", NONE, y::faultPosition);
        Checks.dueThrow("restoreSnapshot of the other", BAD_STATE, y::restoreSnapshot);
        Checks.dueThrow("lineCharacter of the other", NO_INDEX, () -> y.lineCharacter(0));
        Checks.due("feed of the other", y.feed('m'), 1);
    }
}
