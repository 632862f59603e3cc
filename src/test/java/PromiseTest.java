/** Each promise of the document: ordinary inputs, the edges that it names, and wrong inputs. */
public final class PromiseTest extends Samples {
    public static void main(String[] args) {
        promise01NewObject();
        promise02AddMagnet();
        promise02AddMagnetDenials();
        promise03SetStrength();
        promise04Turn();
        promise05Shift();
        promise06Move();
        promise06MoveAgainstEdges();
        promises07To10Magnets();
        promise11MagnetAt();
        promise12MagnetByStrength();
        promise13Dig();
        promise13DigDenials();
        promise14Fill();
        promise15Settle();
        promise15SettleDenials();
        promises16To18Tunnels();
        promise19Parts();
        promise20Walk();
        promises21And22Bridges();
        promises23To26TurnSets();
        promises27And28LeastBlocked();
        promises29And30Forces();
        promises31To33Fields();
        promise34MeanStrength();
        promise35OpenShare();
        promises36And37Turns();
        promise38Moved();
        promise39Feed();
        promise40ExecuteCommands();
        promise40ExecuteAllOrNone();
        promise41FaultPosition();
        promises42And43Line();
        promises44To46Denials();
        promises47And48Undo();
        promises49And50Snapshots();
        Checks.finish("PromiseTest");
    }

    // ---- magnets

    private static void promise01NewObject() {
        MagnetColony x = new MagnetColony();
        Checks.due("new magnetCount", x.magnetCount(), 0);
        Checks.due("new tunnelCount", x.tunnelCount(), 0);
        Checks.due("new undoCount", x.undoCount(), 0);
        Checks.due("new parts", x.parts(), 0);
        Checks.due("new accounts", x.turnTotal() + x.moved(), 0);
        x.addMagnet(5, 5, true);
        Checks.due("another new magnetCount", new MagnetColony().magnetCount(), 0);
    }

    private static void promise02AddMagnet() {
        MagnetColony x = new MagnetColony();
        Checks.due("addMagnet 0", x.addMagnet(0, 1, true), 0);
        Checks.due("addMagnet 1", x.addMagnet(99, 30, false), 1);
        Checks.due("line of 0", line(x, 0), "0@0n1");
        Checks.due("line of 1", line(x, 1), "1@99s30");
        Checks.dueThrow("position -1", BAD_VALUE, () -> x.addMagnet(-1, 5, true));
        Checks.dueThrow("position 100", BAD_VALUE, () -> x.addMagnet(100, 5, true));
        Checks.dueThrow("strength 0", BAD_VALUE, () -> x.addMagnet(50, 0, true));
        Checks.dueThrow("strength 31", BAD_VALUE, () -> x.addMagnet(50, 31, true));
        Checks.dueThrow("greatest arguments", BAD_VALUE,
                () -> x.addMagnet(Integer.MAX_VALUE, Integer.MIN_VALUE, true));
        Checks.dueThrow("taken position with a bad strength", BAD_VALUE, () -> x.addMagnet(99, 31, true));
        Checks.dueThrow("nothing denied by bad values", NONE, x::denial);
        Checks.due("magnetCount after failures", x.magnetCount(), 2);
        Checks.due("undoCount after failures", x.undoCount(), 2);
    }

    private static void promise02AddMagnetDenials() {
        MagnetColony x = colony("nsnsnsns");
        Checks.dueThrow("position of magnet 2", DENIED, () -> x.addMagnet(30, 5, true));
        dueDenial("a taken position", x, 2, 2);
        Checks.due("the ninth magnet", x.addMagnet(0, 5, true), 8);
        Checks.dueThrow("a tenth magnet", DENIED, () -> x.addMagnet(1, 5, true));
        dueDenial("a tenth magnet", x, 1, 9);
        Checks.dueThrow("a tenth magnet at a taken position", DENIED, () -> x.addMagnet(10, 5, true));
        dueDenial("a tenth magnet at a taken position", x, 1, 9);
        Checks.dueThrow("a tenth magnet with a bad strength", BAD_VALUE, () -> x.addMagnet(1, 0, true));
        Checks.due("magnetCount after denials", x.magnetCount(), 9);
    }

    private static void promise03SetStrength() {
        MagnetColony x = colony("ns");
        Checks.due("setStrength", x.setStrength(1, 30), 2);
        Checks.due("strength afterwards", x.strength(1), 30);
        Checks.due("strength of the other", x.strength(0), 1);
        Checks.due("setStrength again", x.setStrength(1, 1), 30);
        Checks.dueThrow("setStrength of 2", NO_INDEX, () -> x.setStrength(2, 5));
        Checks.dueThrow("setStrength of -1", NO_INDEX, () -> x.setStrength(-1, 5));
        Checks.dueThrow("setStrength of 2 to 0", NO_INDEX, () -> x.setStrength(2, 0));
        Checks.dueThrow("setStrength to 0", BAD_VALUE, () -> x.setStrength(1, 0));
        Checks.dueThrow("setStrength to 31", BAD_VALUE, () -> x.setStrength(1, 31));
        Checks.due("strength after failures", x.strength(1), 1);
        Checks.due("undoCount after failures", x.undoCount(), 4);
    }

    private static void promise04Turn() {
        MagnetColony x = colony("nss", 1, 12);
        Checks.due("turn 1 opens 12 and blocks 01", x.turn(1), 1);
        Checks.due("poles", poles(x), "nns");
        Checks.due("turn 0 opens all", x.turn(0), 0);
        Checks.due("turn 1 blocks all", x.turn(1), 2);
        Checks.due("poles at last", poles(x), "sss");
        Checks.dueThrow("turn 3", NO_INDEX, () -> x.turn(3));
        Checks.dueThrow("turn -1", NO_INDEX, () -> x.turn(-1));
        Checks.due("turnTotal", x.turnTotal(), 3);
        Checks.dueThrow("turn without magnets", NO_INDEX, () -> new MagnetColony().turn(0));
    }

    private static void promise05Shift() {
        MagnetColony x = colony("nsns");
        Checks.due("shift at 30", x.shift(30), 2);
        Checks.due("poles", poles(x), "nssn");
        Checks.due("shift at 31", x.shift(31), 1);
        Checks.due("shift at 0", x.shift(0), 4);
        Checks.due("poles at last", poles(x), "snnn");
        Checks.due("shift at 99", x.shift(99), 0);
        Checks.due("a shift of none is a change", x.undoCount(), 8);
        Checks.due("turnTotal", x.turnTotal(), 7);
        Checks.dueThrow("shift at -1", BAD_VALUE, () -> x.shift(-1));
        Checks.dueThrow("shift at 100", BAD_VALUE, () -> x.shift(100));
        x.addMagnet(99, 1, true);
        Checks.due("shift at 99 with a magnet there", x.shift(99), 1);
    }

    private static void promise06Move() {
        Checks.due("move without magnets", new MagnetColony().move(), 0);
        Checks.due("move of a lone magnet", colony("n").move(), 0);
        MagnetColony unlike = colony("ns");
        Checks.due("unlike move", unlike.move(), 2);
        Checks.due("unlike attract", positions(unlike), "11 19");
        MagnetColony like = colony("ss");
        Checks.due("like move", like.move(), 2);
        Checks.due("like repel", positions(like), "9 21");
        MagnetColony balanced = new MagnetColony();
        balanced.addMagnet(40, 7, true);
        balanced.addMagnet(50, 3, true);
        balanced.addMagnet(60, 7, true);
        // 0 moves first, to 39, so that the force on 1 is no longer balanced when it is visited.
        Checks.due("balanced move", balanced.move(), 3);
        Checks.due("the forces are those at the visit", positions(balanced), "39 49 61");
    }

    private static void promise06MoveAgainstEdges() {
        MagnetColony x = new MagnetColony();
        x.addMagnet(0, 5, true);
        x.addMagnet(99, 5, true);
        Checks.due("move beyond both ends", x.move(), 0);
        Checks.due("positions at the ends", positions(x), "0 99");
        MagnetColony close = new MagnetColony();
        close.addMagnet(50, 5, true);
        close.addMagnet(51, 5, false);
        Checks.due("move into each other", close.move(), 0);
        Checks.due("positions side by side", positions(close), "50 51");
        MagnetColony next = new MagnetColony();
        next.addMagnet(50, 5, true);
        next.addMagnet(52, 5, false);
        Checks.due("move to the same position", next.move(), 1);
        Checks.due("the first is first", positions(next), "51 52");
        MagnetColony balanced = new MagnetColony();
        balanced.addMagnet(99, 9, true);
        balanced.addMagnet(0, 9, true);
        balanced.addMagnet(50, 1, true);
        balanced.setStrength(0, 1);
        balanced.setStrength(1, 1);
        Checks.due("only the middle can move", balanced.move(), 1);
        Checks.due("away from the nearer end", positions(balanced), "99 0 49");
    }

    private static void promises07To10Magnets() {
        MagnetColony x = new MagnetColony();
        x.addMagnet(70, 8, false);
        x.addMagnet(3, 29, true);
        Checks.due("magnetCount", x.magnetCount(), 2);
        Checks.due("positions", positions(x), "70 3");
        Checks.due("strength 0", x.strength(0), 8);
        Checks.due("strength 1", x.strength(1), 29);
        Checks.due("pole 0", x.pole(0), 's');
        Checks.due("pole 1", x.pole(1), 'n');
        for (int magnet : new int[] {-1, 2, 9, Integer.MAX_VALUE, Integer.MIN_VALUE}) {
            Checks.dueThrow("position of " + magnet, NO_INDEX, () -> x.position(magnet));
            Checks.dueThrow("strength of " + magnet, NO_INDEX, () -> x.strength(magnet));
            Checks.dueThrow("pole of " + magnet, NO_INDEX, () -> x.pole(magnet));
        }
    }

    private static void promise11MagnetAt() {
        MagnetColony x = new MagnetColony();
        Checks.dueThrow("magnetAt without magnets", NONE, () -> x.magnetAt(0));
        x.addMagnet(99, 1, true);
        x.addMagnet(0, 1, true);
        Checks.due("magnetAt 99", x.magnetAt(99), 0);
        Checks.due("magnetAt 0", x.magnetAt(0), 1);
        Checks.dueThrow("magnetAt 1", NONE, () -> x.magnetAt(1));
        Checks.dueThrow("magnetAt -1", BAD_VALUE, () -> x.magnetAt(-1));
        Checks.dueThrow("magnetAt 100", BAD_VALUE, () -> x.magnetAt(100));
    }

    private static void promise12MagnetByStrength() {
        MagnetColony x = new MagnetColony();
        x.addMagnet(50, 7, true);
        x.addMagnet(40, 9, true);
        x.addMagnet(30, 7, false);
        x.addMagnet(20, 30, true);
        Checks.due("rank 0", x.magnetByStrength(0), 3);
        Checks.due("rank 1", x.magnetByStrength(1), 1);
        Checks.due("rank 2, the lower of the equals", x.magnetByStrength(2), 2);
        Checks.due("rank 3, the higher of the equals", x.magnetByStrength(3), 0);
        Checks.dueThrow("rank 4", NONE, () -> x.magnetByStrength(4));
        Checks.dueThrow("rank -1", NONE, () -> x.magnetByStrength(-1));
    }

    // ---- tunnels

    private static void promise13Dig() {
        MagnetColony x = colony("nsn");
        Checks.due("dig 2 0", x.dig(2, 0), 0);
        Checks.due("dig 0 1", x.dig(0, 1), 1);
        Checks.due("tunnelCount", x.tunnelCount(), 2);
        Checks.due("line of 0", line(x, 0), "0@10n1#2=1");
        Checks.dueThrow("dig 0 3", NO_INDEX, () -> x.dig(0, 3));
        Checks.dueThrow("dig 3 0", NO_INDEX, () -> x.dig(3, 0));
        Checks.dueThrow("dig -1 0", NO_INDEX, () -> x.dig(-1, 0));
        Checks.dueThrow("dig 3 3", NO_INDEX, () -> x.dig(3, 3));
        Checks.dueThrow("dig 1 1", BAD_VALUE, () -> x.dig(1, 1));
        Checks.dueThrow("nothing denied", NONE, x::denial);
    }

    private static void promise13DigDenials() {
        MagnetColony x = colony("nnnnnnnn", 1, 2, 3, 4, 5, 6, 7, 12, 13, 14, 15, 16, 17, 23, 24);
        Checks.dueThrow("dig 3 2", DENIED, () -> x.dig(3, 2));
        dueDenial("dig 3 2", x, 3, 13);
        Checks.due("the sixteenth tunnel", x.dig(7, 6), 15);
        Checks.dueThrow("a seventeenth tunnel", DENIED, () -> x.dig(5, 6));
        dueDenial("a seventeenth tunnel", x, 1, 16);
        Checks.dueThrow("a seventeenth tunnel that is there", DENIED, () -> x.dig(6, 7));
        dueDenial("a seventeenth tunnel that is there", x, 3, 15);
        Checks.dueThrow("a seventeenth tunnel to itself", BAD_VALUE, () -> x.dig(5, 5));
        Checks.due("tunnelCount", x.tunnelCount(), 16);
    }

    private static void promise14Fill() {
        MagnetColony x = colony("nsns", 1, 12, 2);
        Checks.due("fill 1", x.fill(1), 2);
        Checks.due("tunnel 1 is the later one", x.isOpen(1), false);
        Checks.due("line of 2", line(x, 2), "2@30n3#0");
        Checks.due("dug again behind the others", x.dig(1, 2), 2);
        Checks.due("line of 2 again", line(x, 2), "2@30n3#0=1");
        Checks.dueThrow("fill 3", NO_INDEX, () -> x.fill(3));
        Checks.dueThrow("fill -1", NO_INDEX, () -> x.fill(-1));
        Checks.due("fill 2", x.fill(2), 2);
        Checks.due("fill 0", x.fill(0), 1);
        Checks.due("fill the last", x.fill(0), 0);
        Checks.dueThrow("fill without tunnels", NO_INDEX, () -> x.fill(0));
    }

    private static void promise15Settle() {
        MagnetColony tie = colony("nn", 10);
        Checks.due("settle a tie", tie.settle(), 1);
        Checks.due("the lowest index is turned", poles(tie), "sn");
        MagnetColony star = colony("nnnn", 30, 31, 32);
        Checks.due("settle a star", star.settle(), 1);
        Checks.due("its middle is turned", poles(star), "nnns");
        MagnetColony parts = colony("nssnnnn", 21, 43, 35, 36);
        Checks.due("settle two parts", parts.settle(), 2);
        Checks.due("of each what is due", poles(parts), "nnssnnn");
        MagnetColony open = colony("snn", 12, 1);
        Checks.due("settle with an open tunnel", open.settle(), 1);
        Checks.due("the end is turned", poles(open), "sns");
        Checks.due("turnsOf 2", open.turnsOf(2), 1);
        MagnetColony path = colony("nnss", 1, 12, 23);
        Checks.due("settle with a tie of pairs", path.settle(), 2);
        Checks.due("0 is turned", poles(path), "snsn");
    }

    private static void promise15SettleDenials() {
        MagnetColony x = colony("nsn");
        Checks.dueThrow("settle without tunnels", DENIED, x::settle);
        dueDenial("settle without tunnels", x, 5, 0);
        x.dig(0, 1);
        x.dig(1, 2);
        Checks.dueThrow("settle with all open", DENIED, x::settle);
        dueDenial("settle with all open", x, 5, 2);
        x.dig(2, 0);
        Checks.dueThrow("settle a triangle", DENIED, x::settle);
        dueDenial("settle a triangle", x, 4, 1);
        x.turn(1);
        Checks.dueThrow("settle a blocked triangle", DENIED, x::settle);
        dueDenial("settle a blocked triangle", x, 4, 3);
        Checks.due("poles", poles(x), "nnn");
        Checks.due("turnTotal", x.turnTotal(), 1);
    }

    private static void promises16To18Tunnels() {
        MagnetColony x = colony("nsns", 1, 2, 13);
        Checks.due("tunnelCount", x.tunnelCount(), 3);
        Checks.due("isOpen 0", x.isOpen(0), true);
        Checks.due("isOpen 1", x.isOpen(1), false);
        Checks.due("isOpen 2, both south", x.isOpen(2), false);
        Checks.due("blocked", x.blocked(), 2);
        Checks.due("blocked without tunnels", colony("nn").blocked(), 0);
        Checks.dueThrow("isOpen 3", NO_INDEX, () -> x.isOpen(3));
        Checks.dueThrow("isOpen -1", NO_INDEX, () -> x.isOpen(-1));
    }

    private static void promise19Parts() {
        Checks.due("parts without tunnels", colony("nnn").parts(), 3);
        Checks.due("parts with open and blocked tunnels", colony("nsnss", 1, 12, 34).parts(), 2);
        Checks.due("parts with a circle", colony("nsn", 1, 12, 20).parts(), 1);
    }

    private static void promise20Walk() {
        MagnetColony x = colony("nsnsnn", 1, 12, 23, 3, 24, 51);
        Checks.due("walk 0 0", x.walk(0, 0), 0);
        Checks.due("walk 0 1", x.walk(0, 1), 1);
        Checks.due("walk 0 2", x.walk(0, 2), 2);
        Checks.due("walk 5 3", x.walk(5, 3), 3);
        Checks.dueThrow("walk over a blocked tunnel", NONE, () -> x.walk(2, 4));
        x.turn(4);
        Checks.due("walk 4 5", x.walk(4, 5), 3);
        Checks.dueThrow("walk 0 6", NO_INDEX, () -> x.walk(0, 6));
        Checks.dueThrow("walk 6 0", NO_INDEX, () -> x.walk(6, 0));
        Checks.dueThrow("walk 6 6", NO_INDEX, () -> x.walk(6, 6));
        Checks.dueThrow("walk -1 0", NO_INDEX, () -> x.walk(-1, 0));
        Checks.due("walk of a lone magnet", colony("n").walk(0, 0), 0);
        Checks.due("a long walk", colony("nsnsnsnsn", 1, 12, 23, 34, 45, 56, 67, 78).walk(8, 0), 8);
    }

    private static void dueBridges(String what, MagnetColony x, int bridges) {
        Checks.due("bridges of " + what, x.bridges(), bridges);
        Checks.due("bridgesByFilling of " + what, x.bridgesByFilling(), bridges);
        Checks.due("the tunnels stay in " + what, x.bridges(), bridges);
    }

    private static void promises21And22Bridges() {
        dueBridges("no tunnels", colony("nn"), 0);
        dueBridges("a path of open and blocked", colony("nnss", 1, 12, 32), 3);
        dueBridges("a circle", colony("nsnn", 1, 12, 23, 30), 0);
        dueBridges("two circles and a bridge", colony("nnnnnn", 1, 12, 20, 34, 45, 53, 25), 1);
        dueBridges("a circle with tails", colony("nnnnnn", 30, 1, 12, 20, 14, 45), 3);
        dueBridges("two parts", colony("nnnnn", 43, 1, 12, 2), 1);
    }

    private static void dueTurnSet(String what, MagnetColony x, int turns) {
        Checks.due("canSettle of " + what, x.canSettle(), true);
        Checks.due("canSettleByUnions of " + what, x.canSettleByUnions(), true);
        Checks.due("fewestTurns of " + what, x.fewestTurns(), turns);
        Checks.due("fewestTurnsBySets of " + what, x.fewestTurnsBySets(), turns);
    }

    private static void dueNoTurnSet(String what, MagnetColony x) {
        Checks.due("canSettle of " + what, x.canSettle(), false);
        Checks.due("canSettleByUnions of " + what, x.canSettleByUnions(), false);
        Checks.dueThrow("fewestTurns of " + what, NONE, x::fewestTurns);
        Checks.dueThrow("fewestTurnsBySets of " + what, NONE, x::fewestTurnsBySets);
        Checks.dueThrow("nothing is denied by asking", NONE, x::denial);
    }

    private static void promises23To26TurnSets() {
        dueTurnSet("no magnets", new MagnetColony(), 0);
        dueTurnSet("no tunnels", colony("nnn"), 0);
        dueTurnSet("all open", colony("nsns", 1, 12, 23), 0);
        dueTurnSet("a pair", colony("nn", 1), 1);
        dueTurnSet("a star", colony("nnnnn", 1, 2, 3, 4), 1);
        dueTurnSet("a path", colony("nnnnn", 1, 12, 23, 34), 2);
        dueTurnSet("several parts", colony("ssnnnnsss", 1, 23, 34, 45, 67, 78), 4);
        dueTurnSet("a circle of four", colony("nnns", 1, 12, 23, 30), 1);
        dueNoTurnSet("a triangle", colony("nsn", 1, 12, 20));
        dueNoTurnSet("a circle of five", colony("nsnsnss", 65, 1, 12, 23, 34, 40));
        MagnetColony x = colony("nnn", 1, 12);
        x.fewestTurns();
        x.fewestTurnsBySets();
        Checks.due("asking turns nothing", poles(x), "nnn");
    }

    private static void dueLeast(String what, MagnetColony x, int least) {
        Checks.due("leastBlocked of " + what, x.leastBlocked(), least);
        Checks.due("leastBlockedByBounds of " + what, x.leastBlockedByBounds(), least);
    }

    private static void promises27And28LeastBlocked() {
        dueLeast("no magnets", new MagnetColony(), 0);
        dueLeast("no tunnels", colony("nn"), 0);
        dueLeast("a blocked path", colony("nnnn", 1, 12, 23), 0);
        dueLeast("an open pair", colony("ns", 1), 0);
        dueLeast("a triangle", colony("nnn", 1, 12, 20), 1);
        dueLeast("a best triangle", colony("nns", 1, 12, 20), 1);
        dueLeast("two triangles", colony("nnnnnn", 1, 12, 20, 34, 45, 53), 2);
        dueLeast("all pairs of four", colony("nnnn", 1, 2, 3, 12, 13, 23), 2);
        dueLeast("all pairs of five", colony("sssss", 1, 2, 3, 4, 12, 13, 14, 23, 24, 34), 4);
        dueLeast("all pairs of six", colony("ssssss", 1, 2, 3, 4, 5, 12, 13, 14, 15, 23, 24, 25, 34, 35, 45), 6);
    }

    // ---- forces and fields

    private static void promises29And30Forces() {
        Checks.due("force on a lone magnet", colony("n").force(0), 0f);
        MagnetColony x = new MagnetColony();
        x.addMagnet(40, 12, true);
        x.addMagnet(43, 8, true);
        x.addMagnet(50, 30, false);
        x.addMagnet(41, 5, false);
        Checks.due("force 0", x.force(0), 0f - 96f / 9f + 360f / 100f + 60f / 1f);
        Checks.due("force 1", x.force(1), 0f + 96f / 9f + 240f / 49f - 40f / 4f);
        Checks.due("force 2", x.force(2), 0f - 360f / 100f - 240f / 49f + 150f / 81f);
        Checks.due("wholeForce 0", x.wholeForce(0), 52);
        Checks.due("wholeForce 1", x.wholeForce(1), 5);
        Checks.due("wholeForce 2, cut off towards 0", x.wholeForce(2), -6);
        Checks.due("wholeForce of a small force", colony("nn").wholeForce(0), 0);
        MagnetColony strong = new MagnetColony();
        strong.addMagnet(0, 30, true);
        strong.addMagnet(1, 30, true);
        Checks.due("the strongest force", strong.wholeForce(0), -900);
        for (int magnet : new int[] {-1, 4}) {
            Checks.dueThrow("force of " + magnet, NO_INDEX, () -> x.force(magnet));
            Checks.dueThrow("wholeForce of " + magnet, NO_INDEX, () -> x.wholeForce(magnet));
        }
    }

    private static void promises31To33Fields() {
        MagnetColony x = new MagnetColony();
        Checks.due("field without magnets", x.field(0), 0.0);
        Checks.dueThrow("strongestPosition without magnets", NONE, x::strongestPosition);
        Checks.dueThrow("queen without magnets", NONE, x::queen);
        x.addMagnet(40, 12, true);
        x.addMagnet(43, 8, true);
        x.addMagnet(50, 30, false);
        Checks.due("field 41", x.field(41), 0.0 + 12.0 / 2.0 + 8.0 / 3.0 - 30.0 / 10.0);
        Checks.due("field 99", x.field(99), 0.0 + 12.0 / 60.0 + 8.0 / 57.0 - 30.0 / 50.0);
        Checks.dueThrow("field -1", BAD_VALUE, () -> x.field(-1));
        Checks.dueThrow("field 100", BAD_VALUE, () -> x.field(100));
        Checks.due("strongestPosition with south", x.strongestPosition(), 50);
        Checks.due("queen with south", x.queen(), 2);
        MagnetColony equal = new MagnetColony();
        equal.addMagnet(99, 7, true);
        equal.addMagnet(0, 7, false);
        Checks.due("the lowest strongest position", equal.strongestPosition(), 0);
        Checks.due("the lowest queen", equal.queen(), 0);
        equal.addMagnet(98, 1, true);
        Checks.due("the strongest position at the end", equal.strongestPosition(), 99);
        MagnetColony weak = new MagnetColony();
        weak.addMagnet(50, 1, true);
        weak.addMagnet(51, 1, false);
        Checks.due("a strongest position with a field below 1", weak.strongestPosition(), 50);
        MagnetColony between = new MagnetColony();
        between.addMagnet(10, 5, true);
        between.addMagnet(11, 5, false);
        between.addMagnet(60, 1, true);
        between.addMagnet(61, 20, true);
        Checks.due("queen of four", between.queen(), 3);
        Checks.due("queen by the field, not the strength", queenBesideStronger(), 1);
    }

    /** The stronger magnet 0 has unlike neighbours that weaken its field. */
    private static int queenBesideStronger() {
        MagnetColony x = new MagnetColony();
        x.addMagnet(50, 12, true);
        x.addMagnet(80, 10, true);
        x.addMagnet(49, 5, false);
        x.addMagnet(51, 5, false);
        return x.queen();
    }

    private static void promise34MeanStrength() {
        Checks.dueThrow("meanStrength without magnets", NO_DIVISOR, () -> new MagnetColony().meanStrength());
        Checks.due("meanStrength of 1, 2", colony("ns").meanStrength(), 1.5);
        MagnetColony x = colony("nsn");
        x.setStrength(0, 2);
        Checks.due("meanStrength of 2, 2, 3", x.meanStrength(), 7.0 / 3.0);
    }

    private static void promise35OpenShare() {
        Checks.dueThrow("openShare without tunnels", NO_DIVISOR, () -> colony("ns").openShare());
        MagnetColony x = colony("nsn", 1, 12, 20);
        Checks.due("openShare of a triangle", x.openShare(), 2f / 3f);
        x.turn(1);
        Checks.due("openShare with all blocked", x.openShare(), 0f);
        Checks.due("openShare with all open", colony("ns", 1).openShare(), 1f);
    }

    // ---- accounts

    private static void promises36And37Turns() {
        MagnetColony x = colony("nnn", 1, 12);
        x.turn(2);
        x.turn(2);
        x.shift(20);
        Checks.due("turnTotal of turns and a shift", x.turnTotal(), 4);
        Checks.due("settle", x.settle(), 1);
        Checks.due("turnTotal with a settling", x.turnTotal(), 5);
        Checks.due("turnsOf 0", x.turnsOf(0), 0);
        Checks.due("turnsOf 1", x.turnsOf(1), 1);
        Checks.due("turnsOf 2", x.turnsOf(2), 4);
        Checks.dueThrow("turnsOf 3", NO_INDEX, () -> x.turnsOf(3));
        Checks.dueThrow("turnsOf -1", NO_INDEX, () -> x.turnsOf(-1));
        x.undo();
        Checks.due("turnTotal after undo", x.turnTotal(), 4);
        Checks.due("turnsOf 2 after undo", x.turnsOf(2), 3);
        MagnetColony again = colony("n");
        again.addMagnet(50, 1, true);
        again.turn(1);
        again.undo();
        again.undo();
        again.addMagnet(60, 1, true);
        Checks.due("turnsOf a magnet added after undo", again.turnsOf(1), 0);
    }

    private static void promise38Moved() {
        MagnetColony x = colony("nsn");
        Checks.due("moved before", x.moved(), 0);
        int first = x.move();
        int second = x.move();
        Checks.due("moved", x.moved(), first + second);
        Checks.due("some moved", first > 0 && second > 0, true);
        x.undo();
        Checks.due("moved after undo", x.moved(), first);
    }

    // ---- texts and output lines

    private static void promise39Feed() {
        MagnetColony x = new MagnetColony();
        Checks.due("feed a letter", x.feed('m'), 1);
        Checks.due("feed sign 0", x.feed((char) 0), 2);
        Checks.due("feed the last sign", x.feed((char) 65535), 3);
        for (int length = 4; length <= 60; length++) {
            Checks.due("feed up to " + length, x.feed(';'), length);
        }
        Checks.dueThrow("feed into a full buffer", BAD_STATE, () -> x.feed('x'));
        Checks.dueThrow("execute of a full buffer", BAD_VALUE, x::execute);
        Checks.due("feed is no change", x.undoCount(), 0);
        Checks.due("feed into the emptied buffer", x.feed('x'), 1);
    }

    private static void promise40ExecuteCommands() {
        MagnetColony x = new MagnetColony();
        dueText(x, "magnet 5 12n;magnet 07 3s;magnet 99 30s;magnet 0 01n", 4);
        Checks.due("line of 0", line(x, 0), "0@5n12");
        Checks.due("line of 1", line(x, 1), "1@7s3");
        Checks.due("line of 2", line(x, 2), "2@99s30");
        Checks.due("line of 3", line(x, 3), "3@0n1");
        dueText(x, "dig 0-1;dig 1-2;dig 2-0;fill 00;turn 2", 5);
        Checks.due("line of 2 with tunnels", line(x, 2), "2@99n30=1#0");
        dueText(x, "settle", 1);
        Checks.due("poles settled", poles(x), "ssnn");
        dueText(x, "shift 8;strength 3=29;strength 2=04", 3);
        Checks.due("poles shifted", poles(x), "sssn");
        Checks.due("strengths set", x.strength(2) * 100 + x.strength(3), 429);
        int before = x.moved();
        dueText(x, "move;move;move;move;move;move;move;move;move;move;move;move", 12);
        Checks.due("some moved", x.moved() > before, true);
        Checks.due("each text is one change", x.undoCount(), 5);
        dueText(x, "strength 0=1;strength 1=2;strength 2=3;strength 3=4;turn 0", 5);
    }

    private static void promise40ExecuteAllOrNone() {
        MagnetColony x = colony("nnn", 1);
        int changes = x.undoCount();
        dueFailure(x, "turn 0;magnet 50 5n;dig 1-2;dig 1-0", 3, 3);
        Checks.due("magnetCount after a failure", x.magnetCount(), 3);
        Checks.due("tunnelCount after a failure", x.tunnelCount(), 1);
        Checks.due("poles after a failure", poles(x), "nnn");
        Checks.due("turnTotal after a failure", x.turnTotal(), 0);
        Checks.due("undoCount after a failure", x.undoCount(), changes);
        dueFailure(x, "turn 3", 0, 7);
        dueFailure(x, "move;strength 1=0", 1, 7);
        dueFailure(x, "move;strength 3=1", 1, 7);
        dueFailure(x, "move;fill 1", 1, 7);
        dueFailure(x, "dig 2-2", 0, 7);
        dueFailure(x, "magnet 50 31n", 0, 7);
        dueFailure(x, "magnet 50 0n", 0, 7);
        dueFailure(x, "magnet 50 5n;magnet 50 5s", 1, 2);
        dueFailure(x, "turn 1;settle", 1, 5);
        dueFailure(x, "dig 1-2;dig 2-0;settle;move", 2, 4);
        dueFailure(colony("nnnnnnnnn"), "turn 0;magnet 0 1n", 1, 1);
        Checks.due("moved after failures", x.moved(), 0);
        dueText(x, "turn 0", 1);
        Checks.due("the buffer is empty after it", x.feed('a'), 1);
    }

    private static void promise41FaultPosition() {
        MagnetColony x = new MagnetColony();
        Checks.dueThrow("faultPosition at first", NONE, x::faultPosition);
        feed(x, "move");
        x.execute();
        Checks.dueThrow("faultPosition after a good text", NONE, x::faultPosition);
        feed(x, "turn 5");
        Checks.dueThrow("execute of a failing text", DENIED, x::execute);
        Checks.dueThrow("faultPosition after a failing text", NONE, x::faultPosition);
        feed(x, "movo");
        Checks.dueThrow("execute of a wrong text", BAD_VALUE, x::execute);
        feed(x, "move");
        x.execute();
        Checks.due("the fault is kept", x.faultPosition(), 3);
        x.undo();
        Checks.due("undo leaves the fault", x.faultPosition(), 3);
        Checks.dueThrow("execute of no text", BAD_VALUE, x::execute);
        Checks.due("the fault of the latest wrong text", x.faultPosition(), 0);
        dueFault("", 0);
        dueFault(";", 0);
        dueFault("x", 0);
        dueFault("N", 0);
        dueFault("m", 1);
        dueFault("mu", 1);
        dueFault("s", 1);
        dueFault("sx", 1);
        dueFault("sh", 2);
        dueFault("seX", 2);
        dueFault("strx", 3);
        dueFault("move;", 5);
        dueFault("move ", 4);
        dueFault("move;;", 5);
        dueFault("turn", 4);
        dueFault("turn ", 5);
        dueFault("turn  1", 5);
        dueFault("turn 12", 6);
        dueFault("fill 123", 7);
        dueFault("fill a", 5);
        dueFault("dig 12-3", 5);
        dueFault("dig 1-", 6);
        dueFault("dig 1-23", 7);
        dueFault("strength 1=", 11);
        dueFault("strength 1=123", 13);
        dueFault("magnet 100 5n", 9);
        dueFault("magnet 5", 8);
        dueFault("magnet 5 1", 10);
        dueFault("magnet 5 12", 11);
        dueFault("magnet 5 12e", 11);
        dueFault("magnet 5 12nn", 12);
        dueFault("magnet N 1n", 7);
        dueFault("turn 0;dig 0-1;mox", 17);
        dueFault("settle;settled", 13);
        dueFault("move;move;move;move;move;move;move;move;move;move;move;move;", 60);
        dueFault("turn 1;turn 5;turn \u0661", 19);
    }

    private static void promises42And43Line() {
        MagnetColony x = new MagnetColony();
        Checks.dueThrow("lineCharacter at first", NO_INDEX, () -> x.lineCharacter(0));
        Checks.dueThrow("writeMagnet without magnets", NO_INDEX, () -> x.writeMagnet(0));
        MagnetColony y = colony("snnnss", 20, 35, 52);
        y.setStrength(2, 12);
        Checks.due("the length of a line", y.writeMagnet(2), 11);
        Checks.due("a line with tunnels", line(y, 2), "2@30n12=0=5");
        y.turn(5);
        Checks.due("the line stays until the next", y.lineCharacter(9), '=');
        Checks.due("a line with a blocked tunnel", line(y, 2), "2@30n12=0#5");
        Checks.dueThrow("lineCharacter 11", NO_INDEX, () -> y.lineCharacter(11));
        Checks.dueThrow("lineCharacter -1", NO_INDEX, () -> y.lineCharacter(-1));
        Checks.dueThrow("writeMagnet 6", NO_INDEX, () -> y.writeMagnet(6));
        Checks.due("the line after a failure", y.lineCharacter(10), '5');
        Checks.due("a shorter line", y.writeMagnet(1), 6);
        Checks.dueThrow("lineCharacter behind a shorter line", NO_INDEX, () -> y.lineCharacter(6));
        y.undo();
        y.saveSnapshot();
        y.restoreSnapshot();
        Checks.due("undo and snapshots leave the line", y.lineCharacter(0), '1');
        MagnetColony full = colony("nnnnnnnns", 80, 81, 82, 83, 84, 85, 86, 87);
        full.setStrength(8, 30);
        Checks.due("the longest line", line(full, 8), "8@90s30=0=1=2=3=4=5=6=7");
    }

    // ---- the latest denial

    private static void promises44To46Denials() {
        MagnetColony x = colony("ns", 1);
        Checks.dueThrow("denial at first", NONE, x::denial);
        Checks.dueThrow("denialDetail at first", NONE, x::denialDetail);
        Checks.dueThrow("denialCause at first", NONE, x::denialCause);
        dueFailure(x, "turn 0;turn 0;settle", 2, 5);
        Checks.dueThrow("dig 0 1", DENIED, () -> x.dig(0, 1));
        dueDenial("dig 0 1", x, 3, 0);
        Checks.dueThrow("denialCause of another denial", NONE, x::denialCause);
        x.turn(0);
        x.undo();
        x.saveSnapshot();
        x.restoreSnapshot();
        Checks.dueThrow("turn 2", NO_INDEX, () -> x.turn(2));
        dueDenial("what is kept", x, 3, 0);
        feed(x, "nonsense");
        Checks.dueThrow("execute of nonsense", BAD_VALUE, x::execute);
        dueDenial("what is kept after nonsense", x, 3, 0);
        dueFailure(x, "move;turn 7", 1, 7);
    }

    // ---- undo and snapshots

    private static void promises47And48Undo() {
        MagnetColony x = new MagnetColony();
        Checks.dueThrow("undo at first", BAD_STATE, x::undo);
        x.addMagnet(10, 5, true);
        x.addMagnet(20, 6, true);
        x.dig(0, 1);
        x.setStrength(0, 9);
        x.move();
        x.settle();
        x.shift(0);
        Checks.due("undoCount of 7", x.undoCount(), 7);
        x.turn(1);
        x.fill(0);
        x.turn(0);
        Checks.due("undoCount of 10", x.undoCount(), 8);
        Checks.due("undo turn", x.undo(), 7);
        Checks.due("pole before turn", x.pole(0), 'n');
        Checks.due("undo fill", x.undo(), 6);
        Checks.due("tunnels before fill", x.tunnelCount(), 1);
        Checks.due("undo turn 1", x.undo(), 5);
        Checks.due("poles before turn 1", poles(x), "ns");
        Checks.due("undo shift", x.undo(), 4);
        Checks.due("poles before shift", poles(x), "sn");
        Checks.due("undo settle", x.undo(), 3);
        Checks.due("poles before settle", poles(x), "nn");
        Checks.due("undo move", x.undo(), 2);
        Checks.due("positions before move", positions(x), "10 20");
        Checks.due("undo setStrength", x.undo(), 1);
        Checks.due("strength before setStrength", x.strength(0), 5);
        Checks.due("undo dig", x.undo(), 0);
        Checks.due("tunnels before dig", x.tunnelCount(), 0);
        Checks.dueThrow("undo of what is forgotten", BAD_STATE, x::undo);
        Checks.due("magnets that stay", x.magnetCount(), 2);
        MagnetColony y = colony("nsn", 1, 2);
        y.fill(0);
        y.undo();
        Checks.due("tunnels after undo of fill", line(y, 0), "0@10n1=1#2");
        undoAmongTexts();
    }

    private static void undoAmongTexts() {
        MagnetColony x = colony("nn", 1);
        feed(x, "turn 0;move;fill 0;magnet 3 3n");
        x.execute();
        feed(x, "turn");
        x.undo();
        Checks.due("undo of a text", poles(x) + positions(x) + x.tunnelCount(), "nn10 201");
        Checks.due("undo leaves the buffer", x.feed(' '), 6 - 1);
        x.move();
        Checks.due("a move that is a change", x.undoCount(), 4);
        x.position(0);
        x.writeMagnet(0);
        x.saveSnapshot();
        Checks.due("what is no change", x.undoCount(), 4);
        for (int i = 0; i < 20; i++) {
            x.turn(0);
            x.turn(1);
            x.undo();
        }
        Checks.due("undoCount after a mix", x.undoCount(), 7);
        Checks.due("turnTotal after a mix", x.turnTotal(), 20);
    }

    private static void promises49And50Snapshots() {
        MagnetColony x = colony("ns", 1);
        Checks.dueThrow("restoreSnapshot at first", BAD_STATE, x::restoreSnapshot);
        Checks.due("saveSnapshot", x.saveSnapshot(), 2);
        Checks.due("undoCount after saveSnapshot", x.undoCount(), 3);
        x.addMagnet(90, 9, true);
        x.turn(0);
        x.move();
        x.setStrength(1, 20);
        x.fill(0);
        Checks.due("restoreSnapshot", x.restoreSnapshot(), 2);
        Checks.due("undoCount after restoreSnapshot", x.undoCount(), 0);
        Checks.dueThrow("undo after restoreSnapshot", BAD_STATE, x::undo);
        Checks.due("lines restored", line(x, 0) + " " + line(x, 1), "0@10n1=1 1@20s2=0");
        Checks.due("accounts restored", x.turnTotal() + x.moved() + x.turnsOf(0), 0);
        x.turn(1);
        Checks.due("the snapshot is kept", x.restoreSnapshot(), 2);
        Checks.due("poles restored", poles(x), "ns");
        x.addMagnet(50, 5, true);
        Checks.due("saveSnapshot again", x.saveSnapshot(), 3);
        x.undo();
        Checks.due("undo leaves the snapshot", x.restoreSnapshot(), 3);
        feed(x, "ab");
        x.restoreSnapshot();
        Checks.due("snapshots leave the buffer", x.feed('c'), 3);
    }
}
