/** Each sentence on tunnels, walks, bridges and turn sets that names an edge: what is still allowed, and what isn't. */
public final class TunnelEdgesTest extends Samples {
    public static void main(String[] args) {
        atMostSixteenTunnels();
        tunnelsInTheOrderOfDigging();
        twoDifferentMagnets();
        digBetweenMagnetsThatExist();
        atMostOneTunnelBetweenTwo();
        digChecksTheTunnelBeforeTheLimit();
        digChecksTheMagnetsFirst();
        fillTunnelsThatExist();
        laterIndicesDecrease();
        theSixteenthTunnelComesBack();
        whatIsFilledCanBeDugAgain();
        openBetweenUnlikePoles();
        isOpenOfTunnelsThatExist();
        blockedOfNoneAndOfAll();
        settleTurnsTheFewest();
        settleTurnsTheLowestOfSeveral();
        settlePartByPart();
        settleSixteenTunnels();
        settleWithAllTunnelsOpen();
        settleWithoutATurnSet();
        partsOfNoneAndOfNine();
        partsByOpenAndBlockedTunnels();
        tunnelsFromEitherSide();
        walkToItself();
        walkBetweenMagnetsThatExist();
        walkOverOpenTunnelsOnly();
        theShortestOfTwoWalks();
        theLongestWalk();
        noBridgesAndOnlyBridges();
        bridgesAmongCircles();
        aBridgeOfEachIndex();
        bridgesAskedAgain();
        turnSetsOfNoMagnets();
        turnSetsOfCircles();
        turnSetsAskedAgain();
        mostOfTheFewestTurns();
        leastBlockedOfNoneAndOfMost();
        leastBlockedOfCircles();
        searchesChangeNothing();
        Checks.finish("TunnelEdgesTest");
    }

    // ---- what several tests need

    private static String north(int magnets) {
        return "nnnnnnnnn".substring(0, magnets);
    }

    /** Tunnels from each magnet to the next, told for colony(). */
    private static int[] path(int magnets) {
        int[] tunnels = new int[magnets - 1];
        for (int i = 0; i < tunnels.length; i++) {
            tunnels[i] = 10 * i + i + 1;
        }
        return tunnels;
    }

    private static MagnetColony circle(String poles) {
        MagnetColony x = colony(poles, path(poles.length()));
        x.dig(poles.length() - 1, 0);
        return x;
    }

    private static void dueSettled(String what, MagnetColony x, int turned, String poles) {
        int before = x.turnTotal();
        Checks.due("fewestTurns of " + what, x.fewestTurns(), turned);
        Checks.due("fewestTurnsBySets of " + what, x.fewestTurnsBySets(), turned);
        Checks.due("settle of " + what, x.settle(), turned);
        Checks.due("poles of " + what, poles(x), poles);
        Checks.due("blocked of " + what, x.blocked(), 0);
        Checks.due("turnTotal of " + what, x.turnTotal(), before + turned);
    }

    private static void dueUnsettled(String what, MagnetColony x, int blocked) {
        String before = all(x);
        Checks.due("canSettle of " + what, x.canSettle(), false);
        Checks.due("canSettleByUnions of " + what, x.canSettleByUnions(), false);
        Checks.dueThrow("fewestTurns of " + what, NONE, x::fewestTurns);
        Checks.dueThrow("fewestTurnsBySets of " + what, NONE, x::fewestTurnsBySets);
        dueNoDenial("of fewestTurns of " + what, x);
        Checks.dueThrow("settle of " + what, DENIED, x::settle);
        dueDenial("settle of " + what, x, 4, blocked);
        Checks.due("what settle leaves of " + what, all(x), before);
    }

    private static void dueBridges(String what, MagnetColony x, int bridges) {
        Checks.due("bridges of " + what, x.bridges(), bridges);
        Checks.due("bridgesByFilling of " + what, x.bridgesByFilling(), bridges);
    }

    private static void dueLeast(String what, MagnetColony x, int least) {
        Checks.due("leastBlocked of " + what, x.leastBlocked(), least);
        Checks.due("leastBlockedByBounds of " + what, x.leastBlockedByBounds(), least);
    }

    // ---- the terms on tunnels, and promises 13 and 14

    private static void atMostSixteenTunnels() {
        MagnetColony x = colony(north(9));
        for (int tunnel = 0; tunnel < 16; tunnel++) {
            int pair = FOUR_BY_FOUR[tunnel];
            Checks.due("dig", x.dig(pair / 10, pair % 10), tunnel);
            Checks.due("tunnelCount", x.tunnelCount(), tunnel + 1);
        }
        Checks.dueThrow("a seventeenth tunnel", DENIED, () -> x.dig(7, 8));
        dueDenial("a seventeenth tunnel", x, 1, 16);
        Checks.due("tunnelCount after a seventeenth", x.tunnelCount(), 16);
        Checks.due("the line of 8", line(x, 8), "8@90n9");
        x.fill(0);
        Checks.due("a sixteenth after fill", x.dig(7, 8), 15);
        Checks.dueThrow("a seventeenth again", DENIED, () -> x.dig(0, 4));
        x.undo();
        Checks.due("a sixteenth after undo", x.dig(0, 4), 15);
    }

    private static void tunnelsInTheOrderOfDigging() {
        MagnetColony x = colony("nsnn", 32, 10, 30, 21);
        Checks.due("line of 0", line(x, 0), "0@10n1=1#3");
        Checks.due("line of 3", line(x, 3), "3@40n4#2#0");
        Checks.due("isOpen in the order of digging",
                x.isOpen(0) + " " + x.isOpen(1) + " " + x.isOpen(2) + " " + x.isOpen(3), "false true false true");
    }

    private static void twoDifferentMagnets() {
        MagnetColony x = colony(north(9));
        for (int magnet = 0; magnet < 9; magnet++) {
            int same = magnet;
            Checks.dueThrow("dig from " + magnet + " to itself", BAD_VALUE, () -> x.dig(same, same));
        }
        Checks.due("tunnelCount", x.tunnelCount(), 0);
        dueNoDenial("of a tunnel to itself", x);
        Checks.due("dig from the first to the last", x.dig(0, 8), 0);
        Checks.due("dig from the last to the one before", x.dig(8, 7), 1);
    }

    private static void digBetweenMagnetsThatExist() {
        Checks.dueThrow("dig without magnets", NO_INDEX, () -> new MagnetColony().dig(0, 0));
        for (int magnets = 2; magnets <= 9; magnets += 7) {
            String poles = north(magnets);
            for (int magnet : around(0, magnets - 1)) {
                boolean exists = magnet >= 0 && magnet < magnets;
                int other = magnet == 0 ? 1 : 0;
                dueWhere(exists, "dig " + magnet + " " + other, 0, NO_INDEX, () -> colony(poles).dig(magnet, other));
                dueWhere(exists, "dig " + other + " " + magnet, 0, NO_INDEX, () -> colony(poles).dig(other, magnet));
            }
        }
    }

    private static void atMostOneTunnelBetweenTwo() {
        MagnetColony x = colony(north(9), FOUR_BY_FOUR);
        x.fill(15);
        for (int tunnel = 0; tunnel < 15; tunnel++) {
            int first = FOUR_BY_FOUR[tunnel] / 10;
            int second = FOUR_BY_FOUR[tunnel] % 10;
            Checks.dueThrow("dig again", DENIED, () -> x.dig(first, second));
            dueDenial("dig again", x, 3, tunnel);
            Checks.dueThrow("dig from the other side", DENIED, () -> x.dig(second, first));
            dueDenial("dig from the other side", x, 3, tunnel);
        }
        Checks.due("tunnelCount", x.tunnelCount(), 15);
        Checks.due("dig where none is", x.dig(7, 3), 15);
    }

    private static void digChecksTheTunnelBeforeTheLimit() {
        MagnetColony x = colony(north(9), FOUR_BY_FOUR);
        Checks.dueThrow("a seventeenth where one is", DENIED, () -> x.dig(7, 3));
        dueDenial("a seventeenth where one is", x, 3, 15);
    }

    private static void digChecksTheMagnetsFirst() {
        MagnetColony x = colony(north(8), FOUR_BY_FOUR);
        Checks.dueThrow("the same that is not there", NO_INDEX, () -> x.dig(8, 8));
        Checks.dueThrow("the same below 0", NO_INDEX, () -> x.dig(-1, -1));
        Checks.dueThrow("one that is not there, among sixteen tunnels", NO_INDEX, () -> x.dig(0, 8));
        Checks.dueThrow("the same, among sixteen tunnels", BAD_VALUE, () -> x.dig(7, 7));
        dueNoDenial("before the denials are checked", x);
    }

    private static void fillTunnelsThatExist() {
        Checks.dueThrow("fill without magnets", NO_INDEX, () -> new MagnetColony().fill(0));
        Checks.dueThrow("fill without tunnels", NO_INDEX, () -> colony("ns").fill(0));
        for (int tunnels = 1; tunnels <= 16; tunnels += 5) {
            for (int tunnel : around(0, tunnels - 1)) {
                MagnetColony x = colony(north(9));
                for (int i = 0; i < tunnels; i++) {
                    x.dig(FOUR_BY_FOUR[i] / 10, FOUR_BY_FOUR[i] % 10);
                }
                boolean exists = tunnel >= 0 && tunnel < tunnels;
                dueWhere(exists, "fill " + tunnel + " of " + tunnels, tunnels - 1, NO_INDEX, () -> x.fill(tunnel));
                Checks.due("tunnelCount", x.tunnelCount(), exists ? tunnels - 1 : tunnels);
            }
        }
    }

    private static void laterIndicesDecrease() {
        MagnetColony x = colony("nsnsn", 1, 2, 3, 4);
        Checks.due("fill the first", x.fill(0), 3);
        Checks.due("all later ones", line(x, 0), "0@10n1#2=3#4");
        Checks.due("their indices", x.isOpen(0) + " " + x.isOpen(1) + " " + x.isOpen(2), "false true false");
        Checks.due("fill the last", x.fill(2), 2);
        Checks.due("no earlier one", line(x, 0), "0@10n1#2=3");
        Checks.dueThrow("the index of the last is free", NO_INDEX, () -> x.isOpen(2));
        Checks.dueThrow("a tunnel that is there", DENIED, () -> x.dig(3, 0));
        dueDenial("the index is one lower", x, 3, 1);
        MagnetColony full = colony("nnnnsssss", FOUR_BY_FOUR);
        full.turn(7);
        full.fill(0);
        Checks.due("the sixteenth is the fifteenth", full.isOpen(14), false);
        Checks.due("the fifteenth is the fourteenth", full.isOpen(13), true);
        Checks.dueThrow("there is no sixteenth", NO_INDEX, () -> full.isOpen(15));
    }

    private static void theSixteenthTunnelComesBack() {
        MagnetColony x = colony(north(9), FOUR_BY_FOUR);
        x.saveSnapshot();
        x.fill(15);
        x.dig(8, 0);
        Checks.due("another sixteenth", line(x, 8), "8@90n9#0");
        x.undo();
        x.undo();
        Checks.due("the sixteenth after undo", line(x, 7), "7@80n8#0#1#2#3");
        Checks.due("the other after undo", line(x, 8), "8@90n9");
        x.fill(15);
        x.dig(6, 8);
        dueFailure(x, "fill 15;dig 8-1;turn 9", 2, 7);
        Checks.due("the other after a text that failed", line(x, 8), "8@90n9#6");
        x.restoreSnapshot();
        Checks.due("the sixteenth of the snapshot", line(x, 3), "3@40n4#4#5#6#7");
        Checks.due("the other after restoring", line(x, 8), "8@90n9");
    }

    private static void whatIsFilledCanBeDugAgain() {
        MagnetColony x = colony("nsn", 1, 12);
        x.fill(0);
        Checks.dueThrow("a walk over it", NONE, () -> x.walk(0, 1));
        Checks.due("parts", x.parts(), 2);
        Checks.due("dig again", x.dig(1, 0), 1);
        Checks.due("line of 1", line(x, 1), "1@20s2=2=0");
        Checks.due("a walk over it again", x.walk(0, 2), 2);
    }

    // ---- promises 16 to 18: open and blocked

    private static void openBetweenUnlikePoles() {
        Checks.due("north and south", colony("ns", 1).isOpen(0), true);
        Checks.due("south and north", colony("sn", 1).isOpen(0), true);
        Checks.due("north and north", colony("nn", 1).isOpen(0), false);
        Checks.due("south and south", colony("ss", 1).isOpen(0), false);
        Checks.due("of the last magnets", colony("nnnnnnnns", 78).isOpen(0), true);
    }

    private static void isOpenOfTunnelsThatExist() {
        Checks.dueThrow("isOpen without tunnels", NO_INDEX, () -> new MagnetColony().isOpen(0));
        for (int tunnels = 1; tunnels <= 16; tunnels += 5) {
            MagnetColony x = colony("nnnnssssn");
            for (int i = 0; i < tunnels; i++) {
                x.dig(FOUR_BY_FOUR[i] / 10, FOUR_BY_FOUR[i] % 10);
            }
            for (int tunnel : around(0, tunnels - 1)) {
                dueWhere(tunnel >= 0 && tunnel < tunnels, "isOpen " + tunnel + " of " + tunnels, true, NO_INDEX,
                        () -> x.isOpen(tunnel));
            }
        }
    }

    private static void blockedOfNoneAndOfAll() {
        Checks.due("without magnets", new MagnetColony().blocked(), 0);
        Checks.due("tunnelCount without magnets", new MagnetColony().tunnelCount(), 0);
        Checks.due("without tunnels", colony(north(9)).blocked(), 0);
        Checks.due("all open", colony("nnnnssssn", FOUR_BY_FOUR).blocked(), 0);
        Checks.due("all blocked", colony(north(9), FOUR_BY_FOUR).blocked(), 16);
        Checks.due("one blocked", colony("nnnnssssn", 4, 5, 8).blocked(), 1);
    }

    // ---- promise 15: settle

    private static void settleTurnsTheFewest() {
        dueSettled("a star around the last", colony(north(9), 80, 81, 82, 83, 84, 85, 86, 87), 1, "nnnnnnnns");
        dueSettled("a star that is north around south", colony("snnnnnnnn", 1, 2, 3, 4, 5, 6, 7, 81), 1, "snnnnnnns");
        dueSettled("a path of nine", colony(north(9), path(9)), 4, "nsnsnsnsn");
        dueSettled("two against one", colony("snn", 1, 12), 1, "sns");
    }

    private static void settleTurnsTheLowestOfSeveral() {
        dueSettled("a pair", colony("nn", 1), 1, "sn");
        dueSettled("a pair dug from the other side", colony("ss", 10), 1, "ns");
        dueSettled("a pair of the last", colony(north(9), 87), 1, "nnnnnnnsn");
        dueSettled("two pairs of one part", colony("nnss", 1, 12, 23), 2, "snsn");
        dueSettled("a circle of four", circle("nnnn"), 2, "snsn");
        // 2 and 3 or 0 and 1 of one part: 0 is the lowest that is in one of both alone.
        dueSettled("crossed pairs", colony("nsnsn", 1, 2, 13), 2, "snnsn");
    }

    private static void settlePartByPart() {
        dueSettled("four pairs and a lone magnet", colony("nnssnnssn", 1, 23, 45, 67), 4, "snnssnnsn");
        dueSettled("a part that is open beside one that is not", colony("nsnn", 1, 23), 1, "nssn");
        dueSettled("lone magnets of both poles", colony("snsns", 13), 1, "sssns");
    }

    private static void settleSixteenTunnels() {
        dueSettled("sixteen of one pole", colony(north(9), FOUR_BY_FOUR), 4, "ssssnnnnn");
        dueSettled("sixteen of which one magnet blocks four", colony("nnnnsssns", FOUR_BY_FOUR), 1, "nnnnsssss");
        dueSettled("sixteen of which 0 blocks four", colony("snnnsssss", FOUR_BY_FOUR), 1, "nnnnsssss");
    }

    private static void settleWithAllTunnelsOpen() {
        MagnetColony none = new MagnetColony();
        Checks.dueThrow("settle without magnets", DENIED, none::settle);
        dueDenial("settle without magnets", none, 5, 0);
        Checks.due("it is no change", none.undoCount(), 0);
        MagnetColony untunnelled = colony(north(9));
        Checks.dueThrow("settle without tunnels", DENIED, untunnelled::settle);
        dueDenial("settle without tunnels", untunnelled, 5, 0);
        MagnetColony one = colony("ns", 1);
        Checks.dueThrow("settle with one open", DENIED, one::settle);
        dueDenial("settle with one open", one, 5, 1);
        MagnetColony sixteen = colony("ssssnnnnn", FOUR_BY_FOUR);
        Checks.dueThrow("settle with sixteen open", DENIED, sixteen::settle);
        dueDenial("settle with sixteen open", sixteen, 5, 16);
        Checks.due("no pole is turned", poles(sixteen), "ssssnnnnn");
        Checks.due("turnTotal", sixteen.turnTotal(), 0);
        sixteen.turn(3);
        sixteen.settle();
        Checks.dueThrow("settle twice", DENIED, sixteen::settle);
        dueDenial("settle twice", sixteen, 5, 16);
    }

    private static void settleWithoutATurnSet() {
        dueUnsettled("a triangle with one blocked", colony("nsn", 1, 12, 20), 1);
        dueUnsettled("a triangle with all blocked", colony("nnn", 1, 12, 20), 3);
        dueUnsettled("sixteen that are blocked", colony(north(9), KNOT), 16);
        dueUnsettled("sixteen with six blocked", colony("nnnsssnnn", KNOT), 6);
        dueUnsettled("a part that could, beside one that can't", colony("nnnnn", 1, 23, 34, 42), 4);
        MagnetColony x = circle("nsnsn");
        x.fill(0);
        dueSettled("a circle that is no more", x, 1, "ssnsn");
    }

    // ---- promises 19 and 20: parts and walks

    private static void partsOfNoneAndOfNine() {
        Checks.due("without magnets", new MagnetColony().parts(), 0);
        Checks.due("of one", colony("n").parts(), 1);
        Checks.due("of nine without tunnels", colony(north(9)).parts(), 9);
        Checks.due("of nine in a path", colony(north(9), path(9)).parts(), 1);
        Checks.due("of sixteen tunnels", colony(north(9), FOUR_BY_FOUR).parts(), 2);
        Checks.due("of sixteen other tunnels", colony(north(9), KNOT).parts(), 3);
    }

    private static void partsByOpenAndBlockedTunnels() {
        MagnetColony x = colony("nsnn", 1, 12, 23);
        Checks.due("open and blocked", x.parts(), 1);
        x.turn(1);
        Checks.due("all blocked", x.parts(), 1);
        x.fill(1);
        Checks.due("one less", x.parts(), 2);
        Checks.due("a pair that is blocked", colony("nn", 1).parts(), 1);
        Checks.due("a pair that is open", colony("ns", 1).parts(), 1);
    }

    private static void tunnelsFromEitherSide() {
        int[][] triangles = {{1, 12, 20}, {10, 21, 20}, {1, 2, 12}, {21, 20, 10}, {12, 2, 10}};
        for (int[] triangle : triangles) {
            MagnetColony x = colony("nnn", triangle);
            Checks.due("parts", x.parts(), 1);
            dueBridges("a triangle", x, 0);
            dueLeast("a triangle", x, 1);
            dueUnsettled("a triangle", x, 3);
            x.fill(1);
            Checks.due("parts of a path", x.parts(), 1);
            dueBridges("a path", x, 2);
            Checks.due("canSettle of a path", x.canSettle(), true);
            Checks.due("canSettleByUnions of a path", x.canSettleByUnions(), true);
            x.fill(0);
            Checks.due("parts of a pair and another", x.parts(), 2);
            dueBridges("a pair", x, 1);
        }
    }

    private static void walkToItself() {
        MagnetColony x = colony("nnsssnnnn", 1, 2);
        for (int magnet = 0; magnet < 9; magnet++) {
            Checks.due("walk from " + magnet + " to itself", x.walk(magnet, magnet), 0);
        }
        Checks.due("of one", colony("s").walk(0, 0), 0);
    }

    private static void walkBetweenMagnetsThatExist() {
        Checks.dueThrow("without magnets", NO_INDEX, () -> new MagnetColony().walk(0, 0));
        for (int magnets = 1; magnets <= 9; magnets += 8) {
            MagnetColony x = colony("nsnsnsnsn".substring(0, magnets), path(magnets));
            for (int magnet : around(0, magnets - 1)) {
                boolean exists = magnet >= 0 && magnet < magnets;
                dueWhere(exists, "walk from " + magnet, magnet, NO_INDEX, () -> x.walk(magnet, 0));
                dueWhere(exists, "walk to " + magnet, magnet, NO_INDEX, () -> x.walk(0, magnet));
                dueWhere(exists, "walk to itself, " + magnet, 0, NO_INDEX, () -> x.walk(magnet, magnet));
            }
        }
    }

    private static void walkOverOpenTunnelsOnly() {
        MagnetColony x = colony("nsssn", 1, 12, 34);
        Checks.due("over an open one", x.walk(0, 1), 1);
        Checks.due("and back", x.walk(1, 0), 1);
        Checks.dueThrow("over a blocked one", NONE, () -> x.walk(1, 2));
        Checks.dueThrow("over an open and a blocked one", NONE, () -> x.walk(0, 2));
        Checks.dueThrow("to another part", NONE, () -> x.walk(0, 4));
        Checks.dueThrow("without tunnels", NONE, () -> colony("ns").walk(0, 1));
        x.turn(2);
        Checks.due("over one that is open after a turn", x.walk(0, 2), 2);
        dueNoDenial("of walks", x);
    }

    private static void theShortestOfTwoWalks() {
        MagnetColony x = circle("nsnsnsns");
        Checks.due("to the neighbour around the end", x.walk(0, 7), 1);
        Checks.due("the shorter way", x.walk(0, 5), 3);
        Checks.due("both ways alike", x.walk(0, 4), 4);
        x.turn(7);
        Checks.due("the only way left", x.walk(0, 6), 6);
        Checks.dueThrow("to the one that is turned", NONE, () -> x.walk(0, 7));
    }

    private static void theLongestWalk() {
        MagnetColony x = colony("nsnsnsnsn", path(9));
        Checks.due("over eight", x.walk(0, 8), 8);
        Checks.due("and back", x.walk(8, 0), 8);
        MagnetColony y = colony("nsnsnsnsn", 87, 76, 65, 54, 43, 32, 21, 10);
        Checks.due("dug the other way", y.walk(0, 8), 8);
        Checks.due("and back again", y.walk(8, 0), 8);
        Checks.due("among sixteen", colony("nnnnssssn", FOUR_BY_FOUR).walk(0, 3), 2);
    }

    // ---- promises 21 and 22: bridges

    private static void noBridgesAndOnlyBridges() {
        dueBridges("no magnets", new MagnetColony(), 0);
        dueBridges("no tunnels", colony(north(9)), 0);
        dueBridges("one that is open", colony("ns", 1), 1);
        dueBridges("one that is blocked", colony("nn", 1), 1);
        dueBridges("a path of nine", colony(north(9), path(9)), 8);
        dueBridges("a path that is open", colony("nsnsnsnsn", path(9)), 8);
        dueBridges("a star of nine", colony("snnnnnnnn", 80, 81, 82, 83, 84, 85, 86, 87), 8);
        dueBridges("sixteen without", colony(north(9), FOUR_BY_FOUR), 0);
        dueBridges("sixteen with one", colony(north(9), KNOT), 1);
    }

    private static void bridgesAmongCircles() {
        dueBridges("the least circle", circle("nnn"), 0);
        dueBridges("the greatest circle", circle("nsnsnsnsn"), 0);
        MagnetColony x = circle("nnnnnnnn");
        x.fill(7);
        dueBridges("a circle that is no more", x, 7);
        dueBridges("circles on both sides", colony(north(9), 1, 12, 20, 23, 34, 45, 56, 64, 78), 3);
        dueBridges("circles that share a magnet", colony(north(5), 1, 12, 20, 23, 34, 42), 0);
        dueBridges("a bridge whose index is the lowest", colony(north(4), 30, 1, 12, 20), 1);
    }

    private static void aBridgeOfEachIndex() {
        int[] others = {12, 13, 14, 15, 16, 23, 24, 25, 26, 34, 35, 36, 45, 46, 56};
        for (int index = 0; index < 16; index++) {
            MagnetColony x = colony(north(9));
            for (int other = 0; other < 16; other++) {
                int tunnel = other == index ? 1 : others[other < index ? other : other - 1];
                x.dig(tunnel / 10, tunnel % 10);
            }
            String what = "a bridge that is tunnel " + index;
            dueBridges(what, x, 1);
            Checks.due("parts with " + what, x.parts(), 3);
            x.fill(index);
            dueBridges("what is left of " + what, x, 0);
            Checks.due("parts without " + what, x.parts(), 4);
        }
    }

    private static void bridgesAskedAgain() {
        MagnetColony x = colony(north(9), path(9));
        dueBridges("a path", x, 8);
        dueBridges("the same path", x, 8);
        x.dig(8, 0);
        dueBridges("a path that is closed", x, 0);
        x.fill(0);
        dueBridges("a path that is opened elsewhere", x, 8);
        x.undo();
        x.undo();
        x.undo();
        dueBridges("a shorter path", x, 7);
    }

    // ---- promises 23 to 28: turn sets and the least blocked

    private static void turnSetsOfNoMagnets() {
        MagnetColony x = new MagnetColony();
        Checks.due("canSettle", x.canSettle(), true);
        Checks.due("canSettleByUnions", x.canSettleByUnions(), true);
        Checks.due("fewestTurns", x.fewestTurns(), 0);
        Checks.due("fewestTurnsBySets", x.fewestTurnsBySets(), 0);
        MagnetColony nine = colony("nnnsssnsn");
        Checks.due("canSettle without tunnels", nine.canSettle(), true);
        Checks.due("canSettleByUnions without tunnels", nine.canSettleByUnions(), true);
        Checks.due("fewestTurns without tunnels", nine.fewestTurns(), 0);
        Checks.due("fewestTurnsBySets without tunnels", nine.fewestTurnsBySets(), 0);
        MagnetColony open = colony("nsnsnsnsn", path(9));
        Checks.due("canSettle with all open", open.canSettle(), true);
        Checks.due("canSettleByUnions with all open", open.canSettleByUnions(), true);
        Checks.due("fewestTurns with all open", open.fewestTurns(), 0);
        Checks.due("fewestTurnsBySets with all open", open.fewestTurnsBySets(), 0);
    }

    private static void turnSetsOfCircles() {
        for (int magnets = 3; magnets <= 9; magnets++) {
            MagnetColony x = circle(north(magnets));
            boolean even = magnets % 2 == 0;
            Checks.due("canSettle of a circle of " + magnets, x.canSettle(), even);
            Checks.due("canSettleByUnions of a circle of " + magnets, x.canSettleByUnions(), even);
            dueWhere(even, "fewestTurns of a circle of " + magnets, magnets / 2, NONE, x::fewestTurns);
            dueWhere(even, "fewestTurnsBySets of a circle of " + magnets, magnets / 2, NONE, x::fewestTurnsBySets);
            dueWhere(even, "settle of a circle of " + magnets, magnets / 2, DENIED, x::settle);
        }
    }

    private static void turnSetsAskedAgain() {
        MagnetColony x = colony("nnnn", 1, 23);
        Checks.due("canSettle of two pairs", x.canSettle(), true);
        Checks.due("fewestTurns of two pairs", x.fewestTurns(), 2);
        x.fill(1);
        x.fill(0);
        x.dig(0, 2);
        x.dig(1, 3);
        dueSettled("two other pairs", x, 2, "ssnn");
        x.dig(0, 1);
        Checks.due("canSettle of a path", x.canSettle(), true);
        Checks.due("canSettleByUnions of a path", x.canSettleByUnions(), true);
        Checks.due("fewestTurns of a path", x.fewestTurns(), 2);
        x.dig(2, 1);
        Checks.due("canSettle with a triangle", x.canSettle(), false);
        Checks.due("canSettleByUnions with a triangle", x.canSettleByUnions(), false);
        x.undo();
        dueSettled("the path again", x, 2, "nssn");
    }

    private static void mostOfTheFewestTurns() {
        dueSettled("eight, of which four", colony("nnssnnss", 1, 23, 45, 67, 12, 34, 56), 4, "snsnsnsn");
        dueSettled("nine, of which four", colony("nsnsnsnsn", 2, 24, 46, 68, 13, 35, 57), 4, "nnssnnssn");
    }

    private static void leastBlockedOfNoneAndOfMost() {
        dueLeast("no magnets", new MagnetColony(), 0);
        dueLeast("no tunnels", colony(north(9)), 0);
        dueLeast("one that is blocked", colony("nn", 1), 0);
        dueLeast("sixteen that can be open", colony(north(9), FOUR_BY_FOUR), 0);
        dueLeast("sixteen that are open", colony("nnnnssssn", FOUR_BY_FOUR), 0);
        dueLeast("sixteen that can't", colony(north(9), KNOT), 6);
        dueLeast("sixteen that are at the least", colony("nnnsssnnn", KNOT), 6);
        dueLeast("four circles of three", colony(north(9), 1, 12, 20, 23, 34, 42, 45, 56, 64, 67, 78, 86), 4);
    }

    private static void leastBlockedOfCircles() {
        for (int magnets = 3; magnets <= 9; magnets++) {
            dueLeast("a circle of " + magnets, circle(north(magnets)), magnets % 2);
            dueLeast("an open circle of " + magnets, circle("nsnsnsnsn".substring(0, magnets)), magnets % 2);
        }
    }

    private static void searchesChangeNothing() {
        MagnetColony x = colony("nsnnssnsn", KNOT);
        String before = all(x);
        int changes = x.undoCount();
        x.parts();
        x.walk(0, 1);
        x.bridges();
        x.bridgesByFilling();
        x.canSettle();
        x.canSettleByUnions();
        x.leastBlocked();
        x.leastBlockedByBounds();
        Checks.dueThrow("fewestTurns", NONE, x::fewestTurns);
        Checks.dueThrow("fewestTurnsBySets", NONE, x::fewestTurnsBySets);
        Checks.due("all after the searches", all(x), before);
        Checks.due("undoCount after the searches", x.undoCount(), changes);
        dueNoDenial("of searches", x);
    }
}
