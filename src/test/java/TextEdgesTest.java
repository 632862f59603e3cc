/** Each sentence on texts, fault positions and output lines that names an edge. */
public final class TextEdgesTest extends Samples {
    /** Sixty characters, as many as the buffer holds. */
    private static final String LONGEST = "turn 0;turn 1;turn 0;move;move;move;move;move;move;move;move";
    /** The most commands that a text can have. */
    private static final String MOST_COMMANDS = "move;move;move;move;move;move;move;move;move;move;move;move";

    public static void main(String[] args) {
        atMostSixtyCharacters();
        anyCharacterIsFed();
        theTextBeforeARefusedFeed();
        aTextOfSixtyCharacters();
        fromOneToTwelveCommands();
        oneOrTwoDigits();
        oneDigitOfMagnets();
        valuesOfTheShortestAndTheLongestNumbers();
        eachCommandIsItsMethod();
        poleTellsWhetherItIsNorth();
        commandsInTheirOrder();
        allOrNoneWithTheFirstFailing();
        allOrNoneWithTheLastFailing();
        nothingOfAFailedTextIsSeen();
        causesOfFailures();
        commandsThatFailAtTheirLimits();
        theBufferIsEmptyAfterwards();
        anEmptyBuffer();
        aFaultBeforeAnyCommandIsExecuted();
        noFaultPositionWasKept();
        theFaultPositionThatWasKeptLast();
        theFaultPositionIsKept();
        continuationsOfEachBeginning();
        faultsAtEachCharacter();
        textsThatEndTooEarly();
        exactlyOneSpace();
        faultsAtSixtyCharacters();
        charactersThatLookLikeDigits();
        theExampleOfALine();
        theShortestAndTheLongestLine();
        aLineNamesTunnelsInTheirOrder();
        aLineOfMagnetsThatExist();
        charactersOfALine();
        aLineReplacesThePreviousOne();
        theLineStays();
        Checks.finish("TextEdgesTest");
    }

    private static MagnetColony executed(MagnetColony x, String text) {
        feed(x, text);
        Checks.outcome(x::execute);
        return x;
    }

    // ---- promise 39: feed

    private static void atMostSixtyCharacters() {
        MagnetColony x = new MagnetColony();
        for (int length = 1; length <= 60; length++) {
            Checks.due("feed", x.feed('m'), length);
        }
        Checks.dueThrow("a 61st character", BAD_STATE, () -> x.feed('m'));
        Checks.dueThrow("a 61st character again", BAD_STATE, () -> x.feed(';'));
        Checks.outcome(x::execute);
        for (int length = 1; length <= 60; length++) {
            Checks.due("feed after execute", x.feed('m'), length);
        }
        Checks.dueThrow("a 61st character after execute", BAD_STATE, () -> x.feed('m'));
    }

    private static void anyCharacterIsFed() {
        MagnetColony x = new MagnetColony();
        char[] characters = {0, ' ', '\n', 127, 128, 255, 256, '\ud800', '\uffff'};
        for (int i = 0; i < characters.length; i++) {
            Checks.due("feed " + (int) characters[i], x.feed(characters[i]), i + 1);
        }
        Checks.due("it is no change", x.undoCount(), 0);
    }

    private static void theTextBeforeARefusedFeed() {
        MagnetColony x = colony("ns");
        feed(x, LONGEST);
        Checks.dueThrow("feed of one too many", BAD_STATE, () -> x.feed(';'));
        dueNoDenial("of feed", x);
        Checks.due("the text is as before", x.execute(), 11);
    }

    // ---- promise 40: execute

    private static void aTextOfSixtyCharacters() {
        Checks.due("the longest text", LONGEST.length(), 60);
        MagnetColony x = colony("ns");
        dueText(x, LONGEST, 11);
        Checks.due("turnTotal", x.turnTotal(), 3);
        Checks.due("moved", x.moved() > 0, true);
    }

    private static void fromOneToTwelveCommands() {
        for (int commands = 1; commands <= 12; commands++) {
            MagnetColony x = placed("0n1 99s1");
            dueText(x, MOST_COMMANDS.substring(0, 5 * commands - 1), commands);
            Checks.due("moved by " + commands, x.moved(), 2 * commands);
            Checks.due("undoCount", x.undoCount(), 3);
        }
    }

    private static void oneOrTwoDigits() {
        for (String number : new String[] {"1", "9", "01", "09", "10", "29"}) {
            MagnetColony x = new MagnetColony();
            int value = Integer.parseInt(number);
            dueText(x, "magnet " + number + " " + number + "n;strength 0=" + number + ";shift " + number, 3);
            Checks.due("the line of " + number, line(x, 0), "0@" + value + "s" + value);
        }
        dueFault("magnet  1n", 7);
        dueFault("magnet 1 n", 9);
        dueFault("magnet 111 1n", 9);
        dueFault("magnet 1 111n", 11);
        dueFault("strength 0=", 11);
        dueFault("strength 0=111", 13);
        dueFault("shift ", 6);
        dueFault("shift 111", 8);
        dueFault("fill ", 5);
        dueFault("fill 000", 7);
    }

    private static void oneDigitOfMagnets() {
        MagnetColony x = colony("nnnnnnnnn");
        dueText(x, "turn 0;turn 8;dig 0-8;dig 8-7;strength 0=2;strength 8=3", 6);
        Checks.due("the line of 0", line(x, 0), "0@10s2#8");
        Checks.due("the line of 8", line(x, 8), "8@90s3#0=7");
        dueFailure(x, "turn 9", 0, 7);
        dueFailure(x, "dig 9-0", 0, 7);
        dueFailure(x, "dig 0-9", 0, 7);
        dueFailure(x, "strength 9=1", 0, 7);
        dueFault("turn 00", 6);
        dueFault("dig 00-1", 5);
        dueFault("dig 0-01", 7);
        dueFault("strength 00=1", 10);
        dueFault("turn ", 5);
        dueFault("dig ", 4);
        dueFault("dig -", 4);
        dueFault("dig 0-", 6);
        dueFault("strength =", 9);
    }

    private static void valuesOfTheShortestAndTheLongestNumbers() {
        MagnetColony x = new MagnetColony();
        dueText(x, "magnet 0 1n;magnet 99 30s;magnet 09 09n", 3);
        Checks.due("positions", positions(x), "0 99 9");
        Checks.due("strengths", x.strength(0) + " " + x.strength(1) + " " + x.strength(2), "1 30 9");
        dueText(x, "shift 99", 1);
        Checks.due("poles after shift 99", poles(x), "nnn");
        dueText(x, "shift 0", 1);
        Checks.due("poles after shift 0", poles(x), "sss");
        dueText(x, "strength 0=30;strength 1=1", 2);
        Checks.due("strengths", x.strength(0) + " " + x.strength(1), "30 1");
        MagnetColony full = colony("nnnnsssss", FOUR_BY_FOUR);
        dueText(full, "fill 15;fill 0;fill 00;fill 09", 4);
        Checks.due("tunnelCount", full.tunnelCount(), 12);
        dueFailure(full, "fill 12", 0, 7);
        dueFailure(full, "fill 99", 0, 7);
    }

    private static void eachCommandIsItsMethod() {
        MagnetColony x = colony("nnn", 1, 12);
        MagnetColony y = colony("nnn", 1, 12);
        x.addMagnet(40, 30, true);
        x.turn(2);
        x.dig(3, 0);
        x.fill(1);
        x.settle();
        x.shift(20);
        x.move();
        x.setStrength(1, 9);
        dueText(y, "magnet 40 30n;turn 2;dig 3-0;fill 1;settle;shift 20", 6);
        dueText(y, "move;strength 1=9", 2);
        Checks.due("all by commands", all(y), all(x));
        Checks.due("a change a text", y.undoCount(), 7);
    }

    private static void poleTellsWhetherItIsNorth() {
        MagnetColony x = new MagnetColony();
        dueText(x, "magnet 1 1n;magnet 2 1s", 2);
        Checks.due("poles", poles(x), "ns");
        dueFault("magnet 1 1", 10);
        dueFault("magnet 1 1N", 10);
        dueFault("magnet 1 1;", 10);
        dueFault("magnet 1 11", 11);
        dueFault("magnet 1 11;", 11);
    }

    private static void commandsInTheirOrder() {
        MagnetColony x = new MagnetColony();
        dueText(x, "magnet 5 1n;magnet 6 2n;dig 1-0;settle;turn 0;fill 0", 6);
        Checks.due("all", all(x), "0@5n1 turned 2, 1@6n2 turned 0, turns 2, moved 0, tunnels 0");
        MagnetColony y = colony("ns");
        dueFailure(y, "fill 0;dig 0-1", 0, 7);
        dueText(y, "dig 0-1;fill 0", 2);
    }

    private static void allOrNoneWithTheFirstFailing() {
        MagnetColony x = colony("nn", 1);
        String before = all(x);
        dueFailure(x, "dig 0-1;move;turn 0", 0, 3);
        Checks.due("all after it", all(x), before);
        Checks.due("undoCount after it", x.undoCount(), 3);
    }

    private static void allOrNoneWithTheLastFailing() {
        MagnetColony x = placed("0n1 99s1");
        String before = all(x);
        dueFailure(x, MOST_COMMANDS.substring(0, 49) + ";turn 2", 10, 7);
        Checks.due("all after ten moves", all(x), before);
        dueFailure(x, "magnet 5 5n;dig 0-2;strength 0=9;shift 0;settle;turn 3", 5, 7);
        Checks.due("all after five others", all(x), before);
        dueFailure(x, "dig 0-1;fill 0;fill 0", 2, 7);
        Checks.due("all after a tunnel that is gone", all(x), before);
        Checks.due("undoCount after failures", x.undoCount(), 2);
    }

    private static void nothingOfAFailedTextIsSeen() {
        MagnetColony x = colony("n");
        dueFailure(x, "magnet 50 9n;dig 0-1;turn 1;turn 5", 3, 7);
        Checks.due("magnetCount", x.magnetCount(), 1);
        Checks.dueThrow("magnetAt", NONE, () -> x.magnetAt(50));
        Checks.due("add one after it", x.addMagnet(50, 9, false), 1);
        Checks.due("its pole", x.pole(1), 's');
        Checks.due("its turns", x.turnsOf(1), 0);
        Checks.due("undo goes back before it", x.undo(), 1);
        Checks.due("magnetCount after undo", x.magnetCount(), 1);
        x.saveSnapshot();
        dueFailure(x, "turn 0;turn 1", 1, 7);
        Checks.due("pole", x.pole(0), 'n');
        Checks.due("a snapshot that was saved before", x.restoreSnapshot(), 1);
    }

    private static void causesOfFailures() {
        dueFailure(colony("nnnnnnnnn"), "move;magnet 5 5n", 1, 1);
        dueFailure(colony("nnnnnnnnn", FOUR_BY_FOUR), "dig 7-8", 0, 1);
        dueFailure(colony("n"), "magnet 10 5n", 0, 2);
        dueFailure(colony("nn", 1), "turn 0;dig 1-0", 1, 3);
        dueFailure(colony("nnn", 1, 12, 20), "settle", 0, 4);
        dueFailure(colony("nn"), "settle", 0, 5);
        dueFailure(colony("nn", 1), "settle;settle", 1, 5);
        dueFailure(colony("nn"), "dig 0-0", 0, 7);
        dueFailure(colony("nn"), "turn 2", 0, 7);
        dueFailure(new MagnetColony(), "turn 0", 0, 7);
        dueFailure(new MagnetColony(), "settle", 0, 5);
    }

    private static void commandsThatFailAtTheirLimits() {
        MagnetColony x = colony("n");
        dueFailure(x, "magnet 5 0n", 0, 7);
        dueFailure(x, "magnet 5 00n", 0, 7);
        dueFailure(x, "magnet 5 31n", 0, 7);
        dueFailure(x, "magnet 5 99n", 0, 7);
        dueFailure(x, "magnet 10 31n", 0, 7);
        dueFailure(x, "strength 0=0", 0, 7);
        dueFailure(x, "strength 0=00", 0, 7);
        dueFailure(x, "strength 0=31", 0, 7);
        dueFailure(x, "strength 0=99", 0, 7);
        dueFailure(x, "fill 0", 0, 7);
        MagnetColony none = new MagnetColony();
        dueText(none, "shift 99;shift 0;shift 00;move", 4);
        dueText(none, "magnet 0 5n;magnet 1 5n;magnet 2 5n;magnet 3 5n;magnet 4 5n", 5);
        dueText(none, "magnet 5 5n;magnet 6 5n;magnet 7 5n;magnet 8 5n", 4);
        dueFailure(none, "turn 8;magnet 9 5n", 1, 1);
        dueFailure(none, "turn 8;magnet 8 5n", 1, 1);
        Checks.due("magnetCount", none.magnetCount(), 9);
        Checks.due("pole of the ninth", none.pole(8), 'n');
    }

    private static void theBufferIsEmptyAfterwards() {
        MagnetColony x = colony("ns");
        dueText(x, "move", 1);
        Checks.due("feed after a text", x.feed('m'), 1);
        Checks.dueThrow("execute of m", BAD_VALUE, x::execute);
        Checks.due("feed after a fault", x.feed('m'), 1);
        feed(x, "ove;turn 9");
        Checks.dueThrow("execute of a text that fails", DENIED, x::execute);
        Checks.due("feed after a failure", x.feed('m'), 1);
        feed(x, "ove");
        Checks.due("a whole text", x.execute(), 1);
        Checks.dueThrow("execute once more", BAD_VALUE, x::execute);
    }

    private static void anEmptyBuffer() {
        MagnetColony x = new MagnetColony();
        Checks.dueThrow("execute of nothing", BAD_VALUE, x::execute);
        Checks.due("its fault position", x.faultPosition(), 0);
        Checks.due("it is no change", x.undoCount(), 0);
        dueNoDenial("of no text", x);
    }

    private static void aFaultBeforeAnyCommandIsExecuted() {
        MagnetColony x = colony("ns");
        String before = all(x);
        feed(x, "turn 0;move;magnet 5 5n;turn 9;x");
        Checks.dueThrow("a fault behind a command that would fail", BAD_VALUE, x::execute);
        Checks.due("its position", x.faultPosition(), 31);
        Checks.due("all after it", all(x), before);
        Checks.due("undoCount after it", x.undoCount(), 2);
        dueNoDenial("of a fault", x);
    }

    // ---- promise 41: faultPosition

    private static void noFaultPositionWasKept() {
        MagnetColony x = colony("ns");
        Checks.dueThrow("at first", NONE, x::faultPosition);
        feed(x, "mmm");
        Checks.dueThrow("before execute", NONE, x::faultPosition);
        MagnetColony y = executed(colony("ns"), "move");
        Checks.dueThrow("after a text", NONE, y::faultPosition);
        executed(y, "turn 9");
        Checks.dueThrow("after a failure", NONE, y::faultPosition);
    }

    private static void theFaultPositionThatWasKeptLast() {
        MagnetColony x = executed(colony("ns"), "move;x");
        Checks.due("the first", x.faultPosition(), 5);
        executed(x, "mx");
        Checks.due("a lower one", x.faultPosition(), 1);
        executed(x, "turn 0;turn 1;y");
        Checks.due("a greater one", x.faultPosition(), 14);
        executed(x, "");
        Checks.due("that of an empty buffer", x.faultPosition(), 0);
    }

    private static void theFaultPositionIsKept() {
        MagnetColony x = executed(colony("ns"), "move;x");
        executed(x, "turn 0;move");
        Checks.due("after a text", x.faultPosition(), 5);
        executed(x, "turn 0;move;fill 0");
        Checks.due("after a failure", x.faultPosition(), 5);
        feed(x, "xyz");
        Checks.due("after feed", x.faultPosition(), 5);
        x.undo();
        Checks.due("after undo", x.faultPosition(), 5);
        x.saveSnapshot();
        x.restoreSnapshot();
        Checks.due("after snapshots", x.faultPosition(), 5);
    }

    /** Which characters continue a beginning: those with which the fault does not stand behind it. */
    private static String continuations(String beginning) {
        StringBuilder text = new StringBuilder();
        for (int sign = 0; sign < 1024; sign++) {
            MagnetColony x = colony("ns");
            feed(x, beginning);
            x.feed((char) sign);
            String outcome = Checks.outcome(x::execute);
            if (!outcome.equals("throws IllegalArgumentException") || x.faultPosition() > beginning.length()) {
                text.append((char) sign);
            }
        }
        return text.toString();
    }

    private static void continuationsOfEachBeginning() {
        String digits = "0123456789";
        String[][] dues = {
            {"", "dfmst"}, {"m", "ao"}, {"ma", "g"}, {"mo", "v"}, {"s", "eht"}, {"se", "t"}, {"set", "t"},
            {"st", "r"}, {"sh", "i"}, {"t", "u"}, {"d", "i"}, {"f", "i"}, {"magnet", " "}, {"turn", " "},
            {"dig", " "}, {"fill", " "}, {"shift", " "}, {"strength", " "}, {"settle", ";"}, {"move", ";"},
            {"magnet ", digits}, {"magnet 1", " " + digits}, {"magnet 12", " "}, {"magnet 1 ", digits},
            {"magnet 1 2", digits + "ns"}, {"magnet 1 23", "ns"}, {"magnet 1 2n", ";"}, {"magnet 1 23s", ";"},
            {"turn ", digits}, {"turn 1", ";"}, {"dig ", digits}, {"dig 1", "-"}, {"dig 1-", digits},
            {"dig 1-2", ";"}, {"fill ", digits}, {"fill 1", digits + ";"}, {"fill 12", ";"},
            {"shift ", digits}, {"shift 1", digits + ";"}, {"shift 12", ";"}, {"strength ", digits},
            {"strength 1", "="}, {"strength 1=", digits}, {"strength 1=2", digits + ";"}, {"strength 1=23", ";"},
            {"move;", "dfmst"}, {"settle;s", "eht"}, {"fill 12;m", "ao"}, {"turn 1;move;turn 1", ";"},
        };
        for (String[] due : dues) {
            Checks.due("what continues '" + due[0] + "'", continuations(due[0]), due[1]);
        }
    }

    private static void faultsAtEachCharacter() {
        String[] texts = {
            "magnet 12 34n", "turn 1", "dig 1-2", "fill 12", "settle", "shift 12", "move", "strength 1=23",
            "magnet 1 2s", "fill 1", "move;turn 1;settle",
        };
        for (String text : texts) {
            for (int at = 0; at < text.length(); at++) {
                dueFault(text.substring(0, at) + "!" + text.substring(at + 1), at);
                dueFault(text.substring(0, at) + Character.toUpperCase(text.charAt(at)) + "!",
                        Character.isLowerCase(text.charAt(at)) ? at : at + 1);
            }
            dueFault(text + "!", text.length());
            dueFault(text + " ", text.length());
            dueFault(" " + text, 0);
            dueFault(text + ";", text.length() + 1);
            dueFault(text + ";;" + text, text.length() + 1);
            dueFault(";" + text, 0);
        }
    }

    private static void textsThatEndTooEarly() {
        String[] texts = {"magnet 12 34n", "turn 1", "dig 1-2", "settle", "move"};
        for (String text : texts) {
            for (int length = 0; length < text.length(); length++) {
                dueFault(text.substring(0, length), length);
                dueFault("move;" + text.substring(0, length), 5 + length);
            }
        }
        dueFault("strength 1", 10);
        dueFault("strength 1=", 11);
        dueFault("shift", 5);
        dueFault("fill", 4);
    }

    private static void exactlyOneSpace() {
        dueFault("magnet1 1n", 6);
        dueFault("magnet  1 1n", 7);
        dueFault("magnet 1  1n", 9);
        dueFault("magnet 1 1 n", 10);
        dueFault("magnet\t1 1n", 6);
        dueFault("turn0", 4);
        dueFault("turn  0", 5);
        dueFault("dig0-1", 3);
        dueFault("dig  0-1", 4);
        dueFault("dig 0 -1", 5);
        dueFault("dig 0- 1", 6);
        dueFault("fill0", 4);
        dueFault("fill  0", 5);
        dueFault("shift0", 5);
        dueFault("shift  0", 6);
        dueFault("strength0=1", 8);
        dueFault("strength  0=1", 9);
        dueFault("strength 0 =1", 10);
        dueFault("strength 0= 1", 11);
        dueFault("move; move", 5);
        dueFault("move ;move", 4);
    }

    private static void faultsAtSixtyCharacters() {
        dueFault(MOST_COMMANDS + ";", 60);
        dueFault(MOST_COMMANDS + "x", 59);
        dueFault(LONGEST.substring(0, 59) + "x", 59);
        dueFault(MOST_COMMANDS.substring(0, 54) + ";turn ", 60);
        dueFault(MOST_COMMANDS.substring(0, 54) + ";fill!", 59);
        dueFault("x" + LONGEST.substring(1), 0);
        StringBuilder separators = new StringBuilder();
        for (int i = 0; i < 60; i++) {
            separators.append(';');
        }
        dueFault(separators.toString(), 0);
    }

    private static void charactersThatLookLikeDigits() {
        // Signs whose lowest eight bits are those of a digit, or that other scripts count with.
        for (char sign : new char[] {'/', ':', '\u0130', '\u0139', '\u0661', '\uff11', '\u0331', '\u2460'}) {
            dueFault("turn " + sign, 5);
            dueFault("fill 1" + sign, 6);
            dueFault("strength 1=1" + sign, 12);
        }
        dueFault("\u016dove", 0);
        dueFault("move\u013bmove", 4);
    }

    // ---- promises 42 and 43: output lines

    private static void theExampleOfALine() {
        MagnetColony x = placed("10s1 20s2 40n12 50n3 60n4 70n5");
        x.dig(2, 0);
        x.dig(5, 2);
        Checks.due("the length of the example", x.writeMagnet(2), 11);
        Checks.due("the example", line(x, 2), "2@40n12=0#5");
    }

    private static void theShortestAndTheLongestLine() {
        Checks.due("the shortest", line(placed("0n1"), 0), "0@0n1");
        Checks.due("its length", placed("9s9").writeMagnet(0), 5);
        Checks.due("with two digits of the position", line(placed("10n9"), 0), "0@10n9");
        Checks.due("with two digits of the strength", line(placed("9n10"), 0), "0@9n10");
        MagnetColony x = placed("0s1 1s1 2s1 3s1 4n1 5n1 6n1 7n1 99s30");
        for (int magnet = 0; magnet < 8; magnet++) {
            x.dig(magnet, 8);
        }
        Checks.due("the length of the longest", x.writeMagnet(8), 23);
        Checks.due("the longest", line(x, 8), "8@99s30#0#1#2#3=4=5=6=7");
        Checks.due("its last character", x.lineCharacter(22), '7');
        Checks.dueThrow("behind its last character", NO_INDEX, () -> x.lineCharacter(23));
    }

    private static void aLineNamesTunnelsInTheirOrder() {
        MagnetColony x = colony("nsnsn", 40, 3, 20, 1, 34);
        Checks.due("a line", line(x, 0), "0@10n1#4=3#2=1");
        x.fill(1);
        Checks.due("a line after fill", line(x, 0), "0@10n1#4#2=1");
        x.dig(0, 3);
        Checks.due("a line after dig", line(x, 0), "0@10n1#4#2=1=3");
        x.turn(0);
        Checks.due("a line after turn", line(x, 0), "0@10s1=4=2#1#3");
        Checks.due("a line of another", line(x, 3), "3@40s4=4#0");
    }

    private static void aLineOfMagnetsThatExist() {
        for (int magnets = 0; magnets <= 9; magnets += 3) {
            MagnetColony x = colony("nnnnnnnnn".substring(0, magnets));
            for (int magnet : around(0, magnets - 1)) {
                dueWhere(magnet >= 0 && magnet < magnets, "writeMagnet " + magnet, 6, NO_INDEX,
                        () -> x.writeMagnet(magnet));
            }
        }
        MagnetColony gone = colony("nn");
        gone.undo();
        Checks.dueThrow("writeMagnet of one that is undone", NO_INDEX, () -> gone.writeMagnet(1));
    }

    private static void charactersOfALine() {
        for (int index : around(0, 0)) {
            Checks.dueThrow("lineCharacter of an empty line", NO_INDEX, () -> new MagnetColony().lineCharacter(index));
        }
        MagnetColony x = placed("0n1");
        Checks.dueThrow("lineCharacter before the first line", NO_INDEX, () -> x.lineCharacter(0));
        x.writeMagnet(0);
        for (int index : around(0, 4)) {
            boolean exists = index >= 0 && index < 5;
            dueWhere(exists, "lineCharacter " + index, exists ? "0@0n1".charAt(index) : ' ', NO_INDEX,
                    () -> x.lineCharacter(index));
        }
    }

    private static void aLineReplacesThePreviousOne() {
        MagnetColony x = placed("99n30 5s5");
        x.dig(0, 1);
        Checks.due("a long line", x.writeMagnet(0), 9);
        x.fill(0);
        Checks.due("a short line", x.writeMagnet(1), 5);
        Checks.due("its last character", x.lineCharacter(4), '5');
        Checks.dueThrow("a character of the line before", NO_INDEX, () -> x.lineCharacter(5));
        Checks.due("a long line again", x.writeMagnet(0), 7);
        Checks.due("its last character", x.lineCharacter(6), '0');
    }

    private static void theLineStays() {
        MagnetColony x = colony("ns", 1);
        x.writeMagnet(0);
        Checks.dueThrow("writeMagnet of none", NO_INDEX, () -> x.writeMagnet(2));
        Checks.due("after a refused line", x.lineCharacter(7), '1');
        x.turn(0);
        x.fill(0);
        Checks.due("after changes", x.lineCharacter(6), '=');
        x.undo();
        x.saveSnapshot();
        x.undo();
        x.restoreSnapshot();
        Checks.due("after undo and snapshots", x.lineCharacter(6), '=');
        executed(x, "turn 0;turn 9");
        executed(x, "x");
        executed(x, "turn 0");
        Checks.due("after texts", x.lineCharacter(6), '=');
        Checks.dueThrow("behind its end", NO_INDEX, () -> x.lineCharacter(8));
    }
}
