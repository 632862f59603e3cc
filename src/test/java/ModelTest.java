import java.util.concurrent.Callable;

/** Long runs of calls, the same in every session, on the class and on a slow model of the document. */
public final class ModelTest {
    private static final int RUNS = 1500;
    private static final int CALLS = 512;
    /** No step but a text makes more calls than this, and a text feeds no more than it leaves room for. */
    private static final int LONGEST_STEP = 9;
    private static final String[] SNIPPETS = {
        "magnet 40 5n", "magnet 7 12s", "magnet 99 31n", "magnet 41 1s", "magnet 0 30n", "magnet 44 09s",
        "turn 0", "turn 3", "turn 9", "dig 0-1", "dig 2-1", "dig 3-0", "dig 4-4", "dig 5-8", "fill 0", "fill 12",
        "settle", "shift 50", "shift 7", "move", "strength 0=3", "strength 2=00", "strength 1=29",
        ";", "x", "dig 1-", "mo", "st", "sh", "se", "magnet 5", "fill 123", "turn  1", "\u0661", "",
    };

    private final MagnetColony x = new MagnetColony();
    private final Model model = new Model();
    private final String run;
    private long seed;
    private int calls;

    private ModelTest(int number) {
        run = "run " + number;
        seed = 77 + 1000003L * number;
    }

    public static void main(String[] args) {
        for (int number = 0; number < RUNS; number++) {
            ModelTest test = new ModelTest(number);
            if (number % 2 == 1) {
                test.crowd();
            }
            while (test.calls <= CALLS - LONGEST_STEP) {
                test.step();
            }
        }
        Checks.finish("ModelTest");
    }

    private int pick(int bound) {
        seed = seed * 6364136223846793005L + 1442695040888963407L;
        return (int) ((seed >>> 33) % bound);
    }

    /** Mostly an index that is there, at times one beside them or far off. */
    private int index(int count) {
        int kind = pick(40);
        if (kind == 0) {
            return -1;
        }
        if (kind == 1) {
            return count;
        }
        if (kind == 2) {
            return pick(2) == 0 ? Integer.MIN_VALUE : Integer.MAX_VALUE;
        }
        return pick(Math.max(count, 1));
    }

    private int place() {
        return pick(3) == 0 ? index(100) : 40 + pick(15);
    }

    private int size() {
        return pick(10) == 0 ? pick(35) - 2 : 1 + pick(30);
    }

    private void same(String what, Callable<?> call, Callable<?> modelCall) {
        calls++;
        Checks.due(run + " call " + calls + " " + what, Checks.outcome(call), Checks.outcome(modelCall));
    }

    /** Many magnets and tunnels at once, which steps alone seldom make. */
    private void crowd() {
        int magnets = 5 + pick(5);
        for (int magnet = 0; magnet < magnets; magnet++) {
            int place = 11 * magnet + pick(11);
            int size = 1 + pick(30);
            boolean north = pick(2) == 0;
            same("addMagnet", () -> x.addMagnet(place, size, north), () -> model.addMagnet(place, size, north));
        }
        int digs = 4 + pick(20);
        // Half of the crowds have only tunnels between even and odd, so that they can settle.
        boolean settling = pick(2) == 0;
        for (int dig = 0; dig < digs; dig++) {
            int a = pick(magnets);
            int b = pick(magnets);
            if (!settling || (a + b) % 2 == 1) {
                same("dig", () -> x.dig(a, b), () -> model.dig(a, b));
            }
        }
        searches();
        same("settle", () -> x.settle(), () -> model.settle());
        for (int magnet = 0; magnet < magnets; magnet++) {
            int which = magnet;
            same("pole", () -> x.pole(which), () -> model.pole(which));
            same("walk", () -> x.walk(which, 0), () -> model.walk(which, 0));
        }
    }

    private void searches() {
        same("parts", () -> x.parts(), () -> model.parts());
        same("bridges", () -> x.bridges(), () -> model.bridges());
        same("bridgesByFilling", () -> x.bridgesByFilling(), () -> model.bridges());
        same("canSettle", () -> x.canSettle(), () -> model.canSettle());
        same("canSettleByUnions", () -> x.canSettleByUnions(), () -> model.canSettle());
        same("fewestTurns", () -> x.fewestTurns(), () -> model.fewestTurns());
        same("fewestTurnsBySets", () -> x.fewestTurnsBySets(), () -> model.fewestTurns());
        same("leastBlocked", () -> x.leastBlocked(), () -> model.leastBlocked());
        same("leastBlockedByBounds", () -> x.leastBlockedByBounds(), () -> model.leastBlocked());
    }

    private void step() {
        int kind = pick(30);
        if (kind < 14) {
            change(kind);
        } else if (kind < 16) {
            text();
        } else if (kind < 19) {
            undoing();
        } else if (kind < 22) {
            magnets();
        } else if (kind < 26) {
            tunnels();
        } else if (kind < 28) {
            fields();
        } else {
            lines();
        }
    }

    private void change(int kind) {
        int a = index(model.magnetCount());
        int b = index(model.magnetCount());
        int place = place();
        int size = size();
        boolean north = pick(2) == 0;
        switch (kind) {
            case 0, 1 -> same("addMagnet", () -> x.addMagnet(place, size, north),
                    () -> model.addMagnet(place, size, north));
            case 2 -> same("setStrength", () -> x.setStrength(a, size), () -> model.setStrength(a, size));
            case 3, 4 -> same("turn", () -> x.turn(a), () -> model.turn(a));
            case 5 -> same("shift", () -> x.shift(place), () -> model.shift(place));
            case 6, 7 -> same("move", () -> x.move(), () -> model.move());
            case 8, 9, 10, 11 -> same("dig", () -> x.dig(a, b), () -> model.dig(a, b));
            case 12 -> {
                int tunnel = index(model.tunnelCount());
                same("fill", () -> x.fill(tunnel), () -> model.fill(tunnel));
            }
            default -> same("settle", () -> x.settle(), () -> model.settle());
        }
    }

    private void text() {
        StringBuilder text = new StringBuilder(SNIPPETS[pick(SNIPPETS.length)]);
        int more = pick(8);
        for (int i = 0; i < more; i++) {
            // Most texts are only of whole commands, so that many of them match.
            text.append(pick(30) == 0 ? "" : ";").append(SNIPPETS[pick(pick(5) == 0 ? SNIPPETS.length : 23)]);
        }
        int length = pick(20) == 0 ? text.length() : Math.min(text.length(), 60);
        for (int i = 0; i < length && calls < CALLS - LONGEST_STEP; i++) {
            char character = text.charAt(i);
            same("feed", () -> x.feed(character), () -> model.feed(character));
        }
        same("execute of " + text, () -> x.execute(), () -> model.execute());
        same("faultPosition", () -> x.faultPosition(), () -> model.faultPosition());
        denials();
    }

    private void denials() {
        same("denial", () -> x.denial(), () -> model.denial(0));
        same("denialDetail", () -> x.denialDetail(), () -> model.denial(1));
        same("denialCause", () -> x.denialCause(), () -> model.denial(2));
    }

    private void undoing() {
        switch (pick(8)) {
            case 0 -> same("saveSnapshot", () -> x.saveSnapshot(), () -> model.saveSnapshot());
            case 1 -> same("restoreSnapshot", () -> x.restoreSnapshot(), () -> model.restoreSnapshot());
            case 2, 3, 4 -> same("undo", () -> x.undo(), () -> model.undo());
            case 5 -> denials();
            default -> same("undoCount", () -> x.undoCount(), () -> model.undoCount());
        }
    }

    private void magnets() {
        int a = index(model.magnetCount());
        int place = place();
        switch (pick(9)) {
            case 0 -> same("magnetCount", () -> x.magnetCount(), () -> model.magnetCount());
            case 1 -> same("position", () -> x.position(a), () -> model.position(a));
            case 2 -> same("strength", () -> x.strength(a), () -> model.strength(a));
            case 3 -> same("pole", () -> x.pole(a), () -> model.pole(a));
            case 4 -> same("magnetAt", () -> x.magnetAt(place), () -> model.magnetAt(place));
            case 5 -> same("magnetByStrength", () -> x.magnetByStrength(a), () -> model.magnetByStrength(a));
            case 6 -> same("turnsOf", () -> x.turnsOf(a), () -> model.turnsOf(a));
            case 7 -> same("turnTotal", () -> x.turnTotal(), () -> model.turnTotal());
            default -> same("moved", () -> x.moved(), () -> model.moved());
        }
    }

    private void tunnels() {
        int a = index(model.magnetCount());
        int b = index(model.magnetCount());
        int tunnel = index(model.tunnelCount());
        switch (pick(8)) {
            case 0 -> same("tunnelCount", () -> x.tunnelCount(), () -> model.tunnelCount());
            case 1 -> same("isOpen", () -> x.isOpen(tunnel), () -> model.isOpen(tunnel));
            case 2 -> same("blocked", () -> x.blocked(), () -> model.blocked());
            case 3, 4, 5 -> same("walk", () -> x.walk(a, b), () -> model.walk(a, b));
            default -> searches();
        }
    }

    private void fields() {
        int a = index(model.magnetCount());
        int place = place();
        switch (pick(8)) {
            case 0, 1 -> same("force", () -> x.force(a), () -> model.force(a));
            case 2 -> same("wholeForce", () -> x.wholeForce(a), () -> model.wholeForce(a));
            case 3 -> same("field", () -> x.field(place), () -> model.field(place));
            case 4 -> same("strongestPosition", () -> x.strongestPosition(), () -> model.strongestPosition());
            case 5 -> same("queen", () -> x.queen(), () -> model.queen());
            case 6 -> same("meanStrength", () -> x.meanStrength(), () -> model.meanStrength());
            default -> same("openShare", () -> x.openShare(), () -> model.openShare());
        }
    }

    private void lines() {
        int a = index(model.magnetCount());
        int at = index(12);
        same("writeMagnet", () -> x.writeMagnet(a), () -> model.writeMagnet(a));
        same("lineCharacter", () -> x.lineCharacter(at), () -> model.lineCharacter(at));
        same("lineCharacter 7", () -> x.lineCharacter(7), () -> model.lineCharacter(7));
    }
}
