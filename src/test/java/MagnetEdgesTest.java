/** Each sentence on magnets, forces, fields and accounts that names an edge: what is still allowed, and what isn't. */
public final class MagnetEdgesTest extends Samples {
    public static void main(String[] args) {
        atMostNineMagnets();
        magnetsInTheOrderOfAdding();
        positionsFrom0To99();
        noOtherMagnetHasThePosition();
        theTakenPositionIsNamedByItsMagnet();
        strengthsFrom1To30();
        aPoleIsNorthOrSouth();
        addMagnetChecksItsValuesFirst();
        addMagnetChecksTheLimitBeforeThePosition();
        setStrengthOfMagnetsThatExist();
        setStrengthChecksTheMagnetFirst();
        setStrengthReturnsTheStrengthBefore();
        turnMagnetsThatExist();
        turnReturnsTheBlockedAfterwards();
        shiftFrom0To99();
        shiftTurnsFromThePositionOn();
        shiftOfNone();
        moveInTheOrderOfTheIndices();
        moveByTheForceAtTheVisit();
        noMoveWithoutForce();
        noMoveToAPositionThatIsTaken();
        moveToAPositionThatIsLeft();
        noMoveBelow0();
        noMoveAbove99();
        moveOfNoneAndOfAll();
        readMagnetsThatExist();
        aMagnetThatIsUndoneIsGone();
        magnetAtFrom0To99();
        magnetAtFindsWhereMagnetsAre();
        ranksFrom0();
        equalStrengthsByPosition();
        forceOnMagnetsThatExist();
        forceIsInitially0();
        forceInFloatInTheOrderOfTheIndices();
        forceAtTheLeastAndTheGreatestDistance();
        forceOfLikeAndUnlikePoles();
        wholeForceIsCutOffTowards0();
        fieldFrom0To99();
        fieldIsInitially0();
        fieldInDoubleInTheOrderOfTheIndices();
        fieldAtTheLeastAndTheGreatestDistance();
        theLowestOfTheStrongestPositions();
        strongestPositionsFrom0To99();
        theFieldWithoutSign();
        theQueenWithTheLowestIndex();
        aQueenOfEachIndex();
        aQueenBesideAFieldOf0();
        noQueenAmongNoMagnets();
        meanStrengthOfOneAndOfNine();
        openShareOfNoneAndOfAll();
        turnsAreCountedFrom0();
        turnsOfMagnetsThatExist();
        settlingAndShiftsCountEachMagnet();
        movedCountsPositionsThatChange();
        Checks.finish("MagnetEdgesTest");
    }

    // ---- the terms on magnets, and promise 2

    private static void atMostNineMagnets() {
        MagnetColony x = new MagnetColony();
        for (int magnet = 0; magnet < 9; magnet++) {
            Checks.due("addMagnet", x.addMagnet(10 * magnet, 5, true), magnet);
            Checks.due("magnetCount", x.magnetCount(), magnet + 1);
        }
        Checks.dueThrow("a tenth magnet", DENIED, () -> x.addMagnet(90, 5, true));
        dueDenial("a tenth magnet", x, 1, 9);
        Checks.due("magnetCount after a tenth", x.magnetCount(), 9);
        x.undo();
        Checks.due("a ninth after undo", x.addMagnet(90, 5, true), 8);
        Checks.due("the position of the ninth", x.position(8), 90);
    }

    private static void magnetsInTheOrderOfAdding() {
        MagnetColony x = placed("99n1 0s30 50n7 49s7");
        Checks.due("positions by index", positions(x), "99 0 50 49");
        Checks.due("poles by index", poles(x), "nsns");
        Checks.due("magnetAt the lowest", x.magnetAt(0), 1);
        Checks.due("the index of the next", x.addMagnet(1, 1, true), 4);
    }

    private static void positionsFrom0To99() {
        for (int position : around(0, 99)) {
            dueWhere(position >= 0 && position <= 99, "addMagnet at " + position, 0, BAD_VALUE,
                    () -> new MagnetColony().addMagnet(position, 5, true));
        }
        Checks.due("positions at both ends", positions(placed("0n1 99s1")), "0 99");
    }

    private static void noOtherMagnetHasThePosition() {
        MagnetColony x = placed("10n1 20n1");
        Checks.dueThrow("addMagnet at 20", DENIED, () -> x.addMagnet(20, 30, false));
        Checks.due("addMagnet beside it", x.addMagnet(19, 1, true), 2);
        Checks.due("addMagnet at the other side", x.addMagnet(21, 1, true), 3);
        MagnetColony moving = placed("10n1 20n1");
        moving.move();
        Checks.due("addMagnet where none is any more", moving.addMagnet(10, 1, true), 2);
        Checks.dueThrow("addMagnet where one has moved", DENIED, () -> moving.addMagnet(9, 1, true));
        dueDenial("where one has moved", moving, 2, 0);
        moving.undo();
        Checks.due("addMagnet where one was before undo", moving.addMagnet(10, 2, true), 2);
    }

    private static void theTakenPositionIsNamedByItsMagnet() {
        MagnetColony x = placed("80n1 70n1 60n1 50n1 40n1 30n1 20n1 0n1");
        for (int magnet = 0; magnet < 8; magnet++) {
            int position = x.position(magnet);
            Checks.dueThrow("addMagnet at " + position, DENIED, () -> x.addMagnet(position, 1, true));
            dueDenial("position " + position, x, 2, magnet);
        }
    }

    private static void strengthsFrom1To30() {
        MagnetColony x = placed("50n7");
        int before = 7;
        for (int strength : around(1, 30)) {
            boolean allowed = strength >= 1 && strength <= 30;
            dueWhere(allowed, "addMagnet of " + strength, 0, BAD_VALUE,
                    () -> new MagnetColony().addMagnet(50, strength, true));
            dueWhere(allowed, "setStrength to " + strength, before, BAD_VALUE, () -> x.setStrength(0, strength));
            before = allowed ? strength : before;
            Checks.due("strength after " + strength, x.strength(0), before);
        }
        Checks.due("added strengths at both ends", all(placed("3n1 4n30")),
                "0@3n1 turned 0, 1@4n30 turned 0, turns 0, moved 0, tunnels 0");
    }

    private static void aPoleIsNorthOrSouth() {
        MagnetColony x = placed("3n1 4s1 5s1 6s1 7s1 8s1 9s1 10s1 11n1");
        Checks.due("poles", poles(x), "nsssssssn");
        x.turn(0);
        x.turn(8);
        Checks.due("poles after turns", poles(x), "sssssssss");
        x.turn(0);
        x.turn(8);
        Checks.due("poles turned back", poles(x), "nsssssssn");
        x.undo();
        x.undo();
        x.undo();
        x.undo();
        x.undo();
        x.addMagnet(11, 1, false);
        Checks.due("south where north was undone", x.pole(8), 's');
    }

    private static void addMagnetChecksItsValuesFirst() {
        MagnetColony x = placed("0n1 1n1 2n1 3n1 4n1 5n1 6n1 7n1 8n1");
        Checks.dueThrow("position -1 among nine", BAD_VALUE, () -> x.addMagnet(-1, 1, true));
        Checks.dueThrow("position 100 among nine", BAD_VALUE, () -> x.addMagnet(100, 1, true));
        Checks.dueThrow("strength 0 among nine", BAD_VALUE, () -> x.addMagnet(9, 0, true));
        Checks.dueThrow("strength 31 among nine", BAD_VALUE, () -> x.addMagnet(9, 31, true));
        Checks.dueThrow("strength 0 at a taken position", BAD_VALUE, () -> x.addMagnet(0, 0, true));
        Checks.dueThrow("strength 31 of one of two", BAD_VALUE, () -> placed("0n1").addMagnet(0, 31, true));
        Checks.dueThrow("both out of range", BAD_VALUE, () -> x.addMagnet(100, 31, true));
        dueNoDenial("after values out of range", x);
    }

    private static void addMagnetChecksTheLimitBeforeThePosition() {
        MagnetColony x = placed("0n1 1n1 2n1 3n1 4n1 5n1 6n1 7n1 8n1");
        Checks.dueThrow("a tenth at a taken position", DENIED, () -> x.addMagnet(8, 1, true));
        dueDenial("a tenth at a taken position", x, 1, 9);
    }

    // ---- promises 3 to 5: setStrength, turn and shift

    private static void setStrengthOfMagnetsThatExist() {
        Checks.dueThrow("setStrength without magnets", NO_INDEX, () -> new MagnetColony().setStrength(0, 5));
        for (int magnets = 1; magnets <= 9; magnets += 4) {
            String poles = "nnnnnnnnn".substring(0, magnets);
            for (int magnet : around(0, magnets - 1)) {
                MagnetColony x = colony(poles);
                dueWhere(magnet >= 0 && magnet < magnets, "setStrength of " + magnet, magnet + 1, NO_INDEX,
                        () -> x.setStrength(magnet, 30));
                for (int each = 0; each < magnets; each++) {
                    Checks.due("strength of " + each, x.strength(each), each == magnet ? 30 : each + 1);
                }
            }
        }
    }

    private static void setStrengthChecksTheMagnetFirst() {
        MagnetColony x = colony("n");
        Checks.dueThrow("both are wrong, too great", NO_INDEX, () -> x.setStrength(1, 31));
        Checks.dueThrow("both are wrong, too small", NO_INDEX, () -> x.setStrength(-1, 0));
        Checks.dueThrow("the strength is wrong", BAD_VALUE, () -> x.setStrength(0, 31));
    }

    private static void setStrengthReturnsTheStrengthBefore() {
        MagnetColony x = placed("0n1 9n30");
        Checks.due("from 1 to 30", x.setStrength(0, 30), 1);
        Checks.due("from 30 to 30", x.setStrength(0, 30), 30);
        Checks.due("from 30 to 1", x.setStrength(0, 1), 30);
        Checks.due("strength", x.strength(0), 1);
        Checks.due("the other is as before", x.strength(1), 30);
        Checks.due("each is a change", x.undoCount(), 5);
    }

    private static void turnMagnetsThatExist() {
        Checks.dueThrow("turn without magnets", NO_INDEX, () -> new MagnetColony().turn(0));
        for (String poles : new String[] {"n", "ns", "nsnsnsnsn"}) {
            MagnetColony x = colony(poles);
            int turns = 0;
            for (int magnet : around(0, poles.length() - 1)) {
                boolean exists = magnet >= 0 && magnet < poles.length();
                dueWhere(exists, "turn " + magnet + " of " + poles, 0, NO_INDEX, () -> x.turn(magnet));
                turns += exists ? 1 : 0;
                Checks.due("turnTotal after turn " + magnet, x.turnTotal(), turns);
            }
        }
    }

    private static void turnReturnsTheBlockedAfterwards() {
        Checks.due("turn without tunnels", colony("nn").turn(1), 0);
        MagnetColony most = colony("snnnnnnnn", FOUR_BY_FOUR);
        Checks.due("turn until all are blocked", most.turn(0), 16);
        Checks.due("turn of a magnet that no tunnel joins", most.turn(8), 16);
        MagnetColony least = colony("nnnnsssnn", FOUR_BY_FOUR);
        Checks.due("turn until none is blocked", least.turn(7), 0);
    }

    private static void shiftFrom0To99() {
        MagnetColony x = placed("0n1 99n1");
        for (int position : around(0, 99)) {
            int turned = position == 0 ? 2 : 1;
            dueWhere(position >= 0 && position <= 99, "shift at " + position, turned, BAD_VALUE,
                    () -> x.shift(position));
        }
    }

    private static void shiftTurnsFromThePositionOn() {
        MagnetColony x = placed("99n1 0n1 50n1 49n1 51n1");
        Checks.due("shift at a magnet", x.shift(50), 3);
        Checks.due("at least at it", poles(x), "snsns");
        Checks.due("shift at the last position", x.shift(99), 1);
        Checks.due("only the last", poles(x), "nnsns");
        Checks.due("shift at 1", x.shift(1), 4);
        Checks.due("all but the first", poles(x), "snnsn");
        Checks.due("shift at 0", x.shift(0), 5);
        Checks.due("all", poles(x), "nssns");
    }

    private static void shiftOfNone() {
        Checks.due("shift without magnets", new MagnetColony().shift(0), 0);
        MagnetColony x = placed("98n1");
        Checks.due("shift beyond the last magnet", x.shift(99), 0);
        Checks.due("no pole is turned", poles(x), "n");
        Checks.due("turnTotal", x.turnTotal(), 0);
        Checks.due("it is a change", x.undoCount(), 2);
    }

    // ---- promise 6: move

    private static void moveInTheOrderOfTheIndices() {
        MagnetColony lowFirst = placed("50n5 52s5");
        Checks.due("the first index takes the position between", lowFirst.move(), 1);
        Checks.due("from below", positions(lowFirst), "51 52");
        MagnetColony highFirst = placed("52n5 50s5");
        Checks.due("the first index takes it", highFirst.move(), 1);
        Checks.due("from above", positions(highFirst), "51 50");
    }

    private static void moveByTheForceAtTheVisit() {
        // The forces on 1 are balanced until 0 has moved away from it.
        MagnetColony x = placed("40n7 50n3 60n7");
        Checks.due("force before", x.force(1), 0f);
        Checks.due("move", x.move(), 3);
        Checks.due("1 follows the greater force", positions(x), "39 49 61");
    }

    private static void noMoveWithoutForce() {
        MagnetColony x = placed("50n3 40n7 60n7");
        Checks.due("the force is 0", x.force(0), 0f);
        Checks.due("move", x.move(), 2);
        Checks.due("0 stays where it is", positions(x), "50 39 61");
        Checks.due("a lone magnet", colony("s").move(), 0);
        MagnetColony weak = placed("0n1 99n1 50n1");
        // The least force that is not 0 moves a magnet as well.
        Checks.due("the weakest forces", weak.move(), 1);
        Checks.due("2 goes away from the nearer", positions(weak), "0 99 49");
    }

    private static void noMoveToAPositionThatIsTaken() {
        MagnetColony pair = placed("50n5 51s5");
        Checks.due("two side by side", pair.move(), 0);
        Checks.due("both stay", positions(pair), "50 51");
        // 2 leaves its position too late for 1, and 1 too late for 0.
        MagnetColony late = placed("50n1 51n1 54s30");
        Checks.due("the force on 0 is upwards", late.wholeForce(0), 0);
        Checks.due("the force on 0 is not 0", late.force(0) > 0f, true);
        Checks.due("a position that is left later", late.move(), 2);
        Checks.due("0 stays", positions(late), "50 52 53");
    }

    private static void moveToAPositionThatIsLeft() {
        MagnetColony x = placed("50n1 51n1 42s30");
        Checks.due("move", x.move(), 3);
        Checks.due("1 goes where 0 was", positions(x), "49 50 43");
    }

    private static void noMoveBelow0() {
        MagnetColony x = placed("0n5 50n5");
        Checks.due("force to lower positions", x.force(0) < 0f, true);
        Checks.due("only the other moves", x.move(), 1);
        Checks.due("0 stays at 0", positions(x), "0 51");
        MagnetColony next = placed("1n5 50n5");
        Checks.due("from 1", next.move(), 2);
        Checks.due("to 0", positions(next), "0 51");
        Checks.due("and no further", next.move(), 1);
        Checks.due("at 0", positions(next), "0 52");
        MagnetColony away = placed("0n5 50s5");
        Checks.due("away from the end", away.move(), 2);
        Checks.due("to 1", positions(away), "1 49");
    }

    private static void noMoveAbove99() {
        MagnetColony x = placed("99s5 50s5");
        Checks.due("force to greater positions", x.force(0) > 0f, true);
        Checks.due("only the other moves", x.move(), 1);
        Checks.due("0 stays at 99", positions(x), "99 49");
        MagnetColony next = placed("98s5 50s5");
        Checks.due("from 98", next.move(), 2);
        Checks.due("to 99", positions(next), "99 49");
        Checks.due("and no further", next.move(), 1);
        Checks.due("at 99", positions(next), "99 48");
        MagnetColony away = placed("99s5 50n5");
        Checks.due("away from the end", away.move(), 2);
        Checks.due("to 98", positions(away), "98 51");
    }

    private static void moveOfNoneAndOfAll() {
        MagnetColony none = new MagnetColony();
        Checks.due("move without magnets", none.move(), 0);
        Checks.due("it is a change", none.undoCount(), 1);
        MagnetColony all = placed("10n9 15s9 30n9 35s9 50n9 55s9 70n9 75s9 95s1");
        Checks.due("move of nine", all.move(), 9);
        Checks.due("each by one", positions(all), "11 14 31 34 51 54 71 74 96");
        MagnetColony ends = placed("0n30 99n30");
        Checks.due("move of two that can't", ends.move(), 0);
        Checks.due("moved", ends.moved(), 0);
    }

    // ---- promises 7 to 12: what is read of magnets

    private static void readMagnetsThatExist() {
        for (int magnets = 0; magnets <= 9; magnets += 3) {
            MagnetColony x = colony("nnnnnnnnn".substring(0, magnets));
            Checks.due("magnetCount", x.magnetCount(), magnets);
            for (int magnet : around(0, magnets - 1)) {
                boolean exists = magnet >= 0 && magnet < magnets;
                String of = " of " + magnet + " among " + magnets;
                dueWhere(exists, "position" + of, 10 * magnet + 10, NO_INDEX, () -> x.position(magnet));
                dueWhere(exists, "strength" + of, magnet + 1, NO_INDEX, () -> x.strength(magnet));
                dueWhere(exists, "pole" + of, 'n', NO_INDEX, () -> x.pole(magnet));
            }
        }
    }

    private static void aMagnetThatIsUndoneIsGone() {
        MagnetColony x = colony("ns");
        x.undo();
        Checks.dueThrow("position of a magnet that is gone", NO_INDEX, () -> x.position(1));
        Checks.dueThrow("strength of a magnet that is gone", NO_INDEX, () -> x.strength(1));
        Checks.dueThrow("pole of a magnet that is gone", NO_INDEX, () -> x.pole(1));
        Checks.dueThrow("turn of a magnet that is gone", NO_INDEX, () -> x.turn(1));
        Checks.dueThrow("dig to a magnet that is gone", NO_INDEX, () -> x.dig(0, 1));
        Checks.dueThrow("magnetAt of a magnet that is gone", NONE, () -> x.magnetAt(20));
        Checks.dueThrow("rank of a magnet that is gone", NONE, () -> x.magnetByStrength(1));
        Checks.due("force without it", x.force(0), 0f);
        Checks.due("field without it", x.field(10), 1.0);
    }

    private static void magnetAtFrom0To99() {
        MagnetColony x = placed("99n1 0n1 98n1 1n1");
        int[] dues = new int[100];
        dues[98] = 2;
        dues[0] = 1;
        dues[1] = 3;
        for (int position : around(0, 99)) {
            boolean allowed = position >= 0 && position <= 99;
            dueWhere(allowed, "magnetAt " + position, allowed ? dues[position] : 0, BAD_VALUE,
                    () -> x.magnetAt(position));
            dueWhere(false, "magnetAt " + position + " without magnets", 0, allowed ? NONE : BAD_VALUE,
                    () -> new MagnetColony().magnetAt(position));
        }
    }

    private static void magnetAtFindsWhereMagnetsAre() {
        MagnetColony x = placed("0n1 9n1 99n1");
        Checks.dueThrow("magnetAt beside them", NONE, () -> x.magnetAt(8));
        x.move();
        Checks.due("positions", positions(x), "0 10 99");
        Checks.dueThrow("magnetAt where none is any more", NONE, () -> x.magnetAt(9));
        Checks.due("magnetAt where one has moved", x.magnetAt(10), 1);
        Checks.due("the last of nine", colony("nnnnnnnnn").magnetAt(90), 8);
    }

    private static void ranksFrom0() {
        for (int magnets = 0; magnets <= 9; magnets += 3) {
            MagnetColony x = colony("nnnnnnnnn".substring(0, magnets));
            for (int rank : around(0, magnets - 1)) {
                dueWhere(rank >= 0 && rank < magnets, "rank " + rank + " of " + magnets, magnets - 1 - rank, NONE,
                        () -> x.magnetByStrength(rank));
            }
        }
    }

    private static void equalStrengthsByPosition() {
        MagnetColony x = placed("8n5 7s5 6n5 5n5 4s5 3n5 2n5 1s5 0n5");
        for (int rank = 0; rank < 9; rank++) {
            Checks.due("rank " + rank + " of nine equals", x.magnetByStrength(rank), 8 - rank);
        }
        x.setStrength(4, 6);
        x.setStrength(8, 4);
        Checks.due("the strongest", x.magnetByStrength(0), 4);
        Checks.due("the lowest of the equals", x.magnetByStrength(1), 7);
        Checks.due("the weakest", x.magnetByStrength(8), 8);
    }

    // ---- promises 29 and 30: forces

    private static void forceOnMagnetsThatExist() {
        for (int magnets = 0; magnets <= 9; magnets += 3) {
            MagnetColony x = colony("nnnnnnnnn".substring(0, magnets));
            for (int magnet : around(0, magnets - 1)) {
                boolean exists = magnet >= 0 && magnet < magnets;
                dueWhere(exists, "force on " + magnet, exists ? x.force(magnet) : 0f, NO_INDEX,
                        () -> x.force(magnet));
                dueWhere(exists, "wholeForce on " + magnet, exists ? (int) x.force(magnet) : 0, NO_INDEX,
                        () -> x.wholeForce(magnet));
            }
        }
    }

    private static void forceIsInitially0() {
        Checks.due("force on a lone magnet", colony("n").force(0), 0f);
        Checks.due("wholeForce on a lone magnet", colony("s").wholeForce(0), 0);
        MagnetColony x = placed("50s3 40n7 60n7");
        Checks.due("force that is balanced", x.force(0), 0f);
        Checks.due("wholeForce that is balanced", x.wholeForce(0), 0);
    }

    private static void forceInFloatInTheOrderOfTheIndices() {
        MagnetColony x = placed("50n29 31n14 44s1 56n6 69s10");
        float forward = 0f + 406f / 361f - 29f / 36f - 174f / 36f + 290f / 361f;
        float backward = 0f + 290f / 361f - 174f / 36f - 29f / 36f + 406f / 361f;
        double inDouble = 406.0 / 361.0 - 29.0 / 36.0 - 174.0 / 36.0 + 290.0 / 361.0;
        Checks.due("the order can be told", forward != backward && forward != (float) inDouble, true);
        Checks.due("force", x.force(0), forward);
        MagnetColony y = placed("69s10 56n6 44s1 31n14 50n29");
        Checks.due("force with the indices the other way", y.force(4), backward);
    }

    private static void forceAtTheLeastAndTheGreatestDistance() {
        MagnetColony near = placed("50n30 51n30");
        Checks.due("force beside it, downwards", near.force(0), -900f);
        Checks.due("force beside it, upwards", near.force(1), 900f);
        Checks.due("wholeForce beside it", near.wholeForce(1), 900);
        MagnetColony far = placed("0n1 99n1");
        Checks.due("force from the other end, downwards", far.force(0), -(1f / 9801f));
        Checks.due("force from the other end, upwards", far.force(1), 1f / 9801f);
        Checks.due("wholeForce from the other end", far.wholeForce(0), 0);
    }

    private static void forceOfLikeAndUnlikePoles() {
        String[] poles = {"nn", "ss", "ns", "sn"};
        float[] onTheLower = {-0.02f, -0.02f, 0.02f, 0.02f};
        for (int i = 0; i < poles.length; i++) {
            MagnetColony x = colony(poles[i]);
            Checks.due("force on the lower of " + poles[i], x.force(0), onTheLower[i]);
            Checks.due("force on the higher of " + poles[i], x.force(1), -onTheLower[i]);
        }
    }

    private static void wholeForceIsCutOffTowards0() {
        // 30 * 8 / 9 is 26.67, 30 / 1 is 30 and 29 / 30 is below 1.
        Checks.due("26.67", placed("50n30 53s8").wholeForce(0), 26);
        Checks.due("-26.67", placed("50n30 53n8").wholeForce(0), -26);
        Checks.due("30 exactly", placed("50n30 51s1").wholeForce(0), 30);
        Checks.due("-30 exactly", placed("50n30 51n1").wholeForce(0), -30);
        Checks.due("1 exactly", placed("50n1 51s1").wholeForce(0), 1);
        Checks.due("0.93", placed("50n30 64s6").wholeForce(0), 0);
        Checks.due("-0.93", placed("50n30 64n6").wholeForce(0), 0);
    }

    // ---- promises 31 to 33: fields

    private static void fieldFrom0To99() {
        MagnetColony x = placed("0n1");
        for (int position : around(0, 99)) {
            dueWhere(position >= 0 && position <= 99, "field " + position, 1.0 / (1.0 + position), BAD_VALUE,
                    () -> x.field(position));
        }
    }

    private static void fieldIsInitially0() {
        MagnetColony none = new MagnetColony();
        Checks.due("field 0 without magnets", none.field(0), 0.0);
        Checks.due("field 99 without magnets", none.field(99), 0.0);
        Checks.due("field between both poles", placed("40n6 60s6").field(50), 0.0);
    }

    private static void fieldInDoubleInTheOrderOfTheIndices() {
        MagnetColony x = placed("19n29 25s1 34n11 47s10");
        double forward = 0.0 + 29.0 / 12.0 - 1.0 / 6.0 + 11.0 / 5.0 - 10.0 / 18.0;
        double backward = 0.0 - 10.0 / 18.0 + 11.0 / 5.0 - 1.0 / 6.0 + 29.0 / 12.0;
        float inFloat = 29f / 12f - 1f / 6f + 11f / 5f - 10f / 18f;
        Checks.due("the order can be told", forward != backward && forward != (double) inFloat, true);
        Checks.due("field", x.field(30), forward);
        MagnetColony y = placed("47s10 34n11 25s1 19n29");
        Checks.due("field with the indices the other way", y.field(30), backward);
    }

    private static void fieldAtTheLeastAndTheGreatestDistance() {
        MagnetColony x = placed("0s30");
        Checks.due("field where the magnet is", x.field(0), -30.0);
        Checks.due("field beside it", x.field(1), -15.0);
        Checks.due("field at the other end", x.field(99), -0.3);
        MagnetColony y = placed("99n30");
        Checks.due("field where the magnet is at 99", y.field(99), 30.0);
        Checks.due("field below it", y.field(98), 15.0);
        Checks.due("field 0 of a magnet at 99", y.field(0), 0.3);
    }

    private static void theLowestOfTheStrongestPositions() {
        Checks.due("of two equals", placed("70n5 30n5").strongestPosition(), 30);
        Checks.due("of two unlike equals", placed("70n5 30s5").strongestPosition(), 30);
        Checks.due("of equals at both ends", placed("99n5 0s5").strongestPosition(), 0);
        Checks.dueThrow("of no magnets", NONE, () -> new MagnetColony().strongestPosition());
    }

    private static void strongestPositionsFrom0To99() {
        for (int position = 0; position <= 99; position++) {
            Checks.due("of one at " + position, placed(position + "n1").strongestPosition(), position);
            Checks.due("of a south at " + position, placed(position + "s1").strongestPosition(), position);
        }
        Checks.due("where the fields add up", placed("50n10 52n10 54n10 49n1 55n1").strongestPosition(), 52);
        Checks.due("of equals beside each other", placed("49n9 51n9 48n9 52n9").strongestPosition(), 49);
    }

    private static void theFieldWithoutSign() {
        MagnetColony x = placed("20n10 80s11");
        Checks.due("strongestPosition of the south", x.strongestPosition(), 80);
        Checks.due("queen of the south", x.queen(), 1);
        MagnetColony y = placed("20s10 80n11");
        Checks.due("strongestPosition of the north", y.strongestPosition(), 80);
        Checks.due("queen of the north", y.queen(), 1);
    }

    private static void theQueenWithTheLowestIndex() {
        Checks.due("of two equals", placed("70n5 30n5").queen(), 0);
        Checks.due("of two unlike equals", placed("70s5 30n5").queen(), 0);
        Checks.due("of nine, the last", placed("0n1 1s1 10n1 11s1 20n1 21s1 30n1 31s1 90n2").queen(), 8);
        Checks.due("of nine, the first", placed("90n2 0n1 1s1 10n1 11s1 20n1 21s1 30n1 31s1").queen(), 0);
        Checks.due("of one", placed("50s1").queen(), 0);
    }

    private static void aQueenOfEachIndex() {
        for (int queen = 0; queen < 9; queen++) {
            MagnetColony x = placed("0n1 11n1 22n1 33n1 44n1 55n1 66n1 77n1 88n1");
            x.setStrength(queen, 30);
            Checks.due("queen", x.queen(), queen);
            Checks.due("strongestPosition", x.strongestPosition(), 11 * queen);
            x.turn(queen);
            Checks.due("a queen that is south", x.queen(), queen);
        }
    }

    private static void aQueenBesideAFieldOf0() {
        MagnetColony x = placed("40n1 41s2");
        Checks.due("the field of 0", x.field(40), 0.0);
        Checks.due("the queen is the other", x.queen(), 1);
        MagnetColony y = placed("41s2 40n1");
        Checks.due("the queen is the other as well", y.queen(), 0);
    }

    private static void noQueenAmongNoMagnets() {
        MagnetColony x = new MagnetColony();
        Checks.dueThrow("queen", NONE, x::queen);
        x.addMagnet(0, 1, true);
        Checks.due("queen of one", x.queen(), 0);
        x.undo();
        Checks.dueThrow("queen after undo", NONE, x::queen);
        Checks.dueThrow("strongestPosition after undo", NONE, x::strongestPosition);
    }

    // ---- promises 34 and 35: means and shares

    private static void meanStrengthOfOneAndOfNine() {
        MagnetColony x = new MagnetColony();
        Checks.dueThrow("of none", NO_DIVISOR, x::meanStrength);
        x.addMagnet(3, 30, true);
        Checks.due("of one", x.meanStrength(), 30.0);
        x.undo();
        Checks.dueThrow("of one that is undone", NO_DIVISOR, x::meanStrength);
        Checks.due("of nine", placed("0n1 1n1 2n1 3n1 4n1 5n1 6n1 7n1 8n3").meanStrength(), 11.0 / 9.0);
        Checks.due("of the nine strongest", placed(
                "0n30 1n30 2n30 3n30 4n30 5n30 6n30 7n30 8s30").meanStrength(), 30.0);
    }

    private static void openShareOfNoneAndOfAll() {
        MagnetColony x = colony("nnsn", 1);
        Checks.due("with one that is blocked", x.openShare(), 0f);
        x.dig(0, 2);
        x.dig(0, 3);
        Checks.due("with one of three open", x.openShare(), 1f / 3f);
        x.fill(2);
        x.fill(0);
        Checks.due("with one that is open", x.openShare(), 1f);
        x.fill(0);
        Checks.dueThrow("without tunnels any more", NO_DIVISOR, x::openShare);
        Checks.dueThrow("without magnets", NO_DIVISOR, () -> new MagnetColony().openShare());
        Checks.due("with sixteen blocked", colony("nnnnnnnnn", FOUR_BY_FOUR).openShare(), 0f);
        Checks.due("with sixteen open", colony("nnnnssssn", FOUR_BY_FOUR).openShare(), 1f);
        Checks.due("with seven of sixteen open", colony("nnnnsnnnn", KNOT).openShare(), 5f / 16f);
    }

    // ---- promises 36 to 38: accounts

    private static void turnsAreCountedFrom0() {
        MagnetColony x = new MagnetColony();
        Checks.due("turnTotal without magnets", x.turnTotal(), 0);
        x.addMagnet(50, 5, false);
        Checks.due("turnsOf a new magnet", x.turnsOf(0), 0);
        // As many calls as an object has: the answer to the last is due as well.
        for (int call = 4; call < 512; call++) {
            x.turn(0);
        }
        Checks.due("turnsOf after 508 turns", x.turnsOf(0), 508);
    }

    private static void turnsOfMagnetsThatExist() {
        for (int magnets = 0; magnets <= 9; magnets += 3) {
            MagnetColony x = colony("nnnnnnnnn".substring(0, magnets));
            for (int magnet = 0; magnet < magnets; magnet++) {
                for (int times = 0; times <= magnet; times++) {
                    x.turn(magnet);
                }
            }
            for (int magnet : around(0, magnets - 1)) {
                dueWhere(magnet >= 0 && magnet < magnets, "turnsOf " + magnet, magnet + 1, NO_INDEX,
                        () -> x.turnsOf(magnet));
            }
            Checks.due("turnTotal of " + magnets, x.turnTotal(), magnets * (magnets + 1) / 2);
        }
    }

    private static void settlingAndShiftsCountEachMagnet() {
        MagnetColony x = colony("nnnnnnnnn", FOUR_BY_FOUR);
        x.shift(10);
        Checks.due("turnTotal of a shift of nine", x.turnTotal(), 9);
        x.shift(91);
        Checks.due("turnTotal of a shift of none", x.turnTotal(), 9);
        x.settle();
        Checks.due("turnTotal with a settling of four", x.turnTotal(), 13);
        Checks.due("turnsOf the last of them", x.turnsOf(3), 2);
        Checks.due("turnsOf the first of the others", x.turnsOf(4), 1);
        Checks.dueThrow("settle again", DENIED, x::settle);
        Checks.due("turnTotal after a denial", x.turnTotal(), 13);
        dueFailure(x, "turn 0;shift 0;settle;settle", 3, 5);
        Checks.due("turnTotal after a text that failed", x.turnTotal(), 13);
        dueText(x, "turn 0;shift 0;turn 0", 3);
        Checks.due("turnTotal after a text", x.turnTotal(), 24);
        x.undo();
        Checks.due("turnTotal after undo", x.turnTotal(), 13);
    }

    private static void movedCountsPositionsThatChange() {
        MagnetColony x = placed("1n5 98n5");
        Checks.due("moved at first", x.moved(), 0);
        x.move();
        Checks.due("moved by two", x.moved(), 2);
        x.move();
        Checks.due("moved by none at both ends", x.moved(), 2);
        x.turn(0);
        x.move();
        Checks.due("moved back", x.moved(), 4);
        Checks.due("positions", positions(x), "1 98");
        dueFailure(x, "move;move;turn 2", 2, 7);
        Checks.due("moved after a text that failed", x.moved(), 4);
        dueText(x, "move;move", 2);
        Checks.due("moved after a text", x.moved(), 8);
        x.undo();
        Checks.due("moved after undo", x.moved(), 4);
    }
}
