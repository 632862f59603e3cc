import java.util.Arrays;
import java.util.NoSuchElementException;

public final class MagnetColony {

    private static final int MAX_MAGNETS = 9;
    private static final int MAX_TUNNELS = 16;
    private static final int POSITIONS = 100;
    private static final int MAX_STRENGTH = 30;
    private static final int MAX_CHANGES = 8;
    private static final int MAX_TEXT = 60;
    // No command is shorter than "move", so a full buffer starts no more than this.
    private static final int MAX_COMMANDS = MAX_TEXT / 4;
    // The longest line is "8@99s30" and a tunnel to each of the other magnets.
    private static final int MAX_LINE = 7 + 2 * (MAX_MAGNETS - 1);
    private static final int NONE = -1;

    private static final int ADD_MAGNET = 0;
    private static final int SET_STRENGTH = 1;
    private static final int TURN = 2;
    private static final int SHIFT = 3;
    private static final int MOVE = 4;
    private static final int DIG = 5;
    private static final int FILL = 6;
    private static final int SETTLE = 7;
    private static final int KINDS = 8;

    private static final int ALLOWED = 0;
    private static final int LIMIT_REACHED = 1;
    private static final int POSITION_TAKEN = 2;
    private static final int TUNNEL_EXISTS = 3;
    private static final int NO_TURN_SET = 4;
    private static final int ALL_OPEN = 5;
    private static final int COMMAND_FAILED = 6;
    private static final int OTHER_EXCEPTION = 7;
    private static final int NO_SUCH_INDEX = 8;
    private static final int OUT_OF_RANGE = 9;

    private final Colony colony = new Colony();
    private final Survey survey = new Survey(colony);
    private final Forces forces = new Forces(colony);
    private final Changes changes = new Changes(colony, survey, forces);
    private final History history = new History();
    private final Colony beforeText = new Colony();
    private final Colony snapshot = new Colony();
    private final Text text = new Text();
    private final Line line = new Line();
    private boolean hasSnapshot;
    private int keptFault = NONE;
    private int deniedNumber;
    private int deniedDetail;
    private int deniedCause;

    public MagnetColony() {
    }

    // ---- magnets

    public int addMagnet(int position, int strength, boolean isNorth)
            throws IllegalArgumentException, UnsupportedOperationException {
        return change(ADD_MAGNET, position, strength, isNorth ? 1 : 0);
    }

    public int setStrength(int magnet, int strength)
            throws IndexOutOfBoundsException, IllegalArgumentException {
        return change(SET_STRENGTH, magnet, strength, 0);
    }

    public int turn(int magnet) throws IndexOutOfBoundsException {
        return change(TURN, magnet, 0, 0);
    }

    public int shift(int position) throws IllegalArgumentException {
        return change(SHIFT, position, 0, 0);
    }

    public int move() {
        return change(MOVE, 0, 0, 0);
    }

    public int magnetCount() {
        return colony.magnets;
    }

    public int position(int magnet) throws IndexOutOfBoundsException {
        requireMagnet(magnet);
        return colony.positions[magnet];
    }

    public int strength(int magnet) throws IndexOutOfBoundsException {
        requireMagnet(magnet);
        return colony.strengths[magnet];
    }

    public char pole(int magnet) throws IndexOutOfBoundsException {
        requireMagnet(magnet);
        return colony.poleSign(magnet);
    }

    public int magnetAt(int position) throws IllegalArgumentException, NoSuchElementException {
        requirePosition(position);
        return requireFound(colony.magnetOn(position));
    }

    public int magnetByStrength(int rank) throws NoSuchElementException {
        return requireFound(colony.magnetOfRank(rank));
    }

    // ---- tunnels

    public int dig(int first, int second)
            throws IndexOutOfBoundsException, IllegalArgumentException, UnsupportedOperationException {
        return change(DIG, first, second, 0);
    }

    public int fill(int tunnel) throws IndexOutOfBoundsException {
        return change(FILL, tunnel, 0, 0);
    }

    public int settle() throws UnsupportedOperationException {
        return change(SETTLE, 0, 0, 0);
    }

    public int tunnelCount() {
        return colony.tunnels;
    }

    public boolean isOpen(int tunnel) throws IndexOutOfBoundsException {
        requireTunnel(tunnel);
        return colony.hasUnlikePoles(tunnel);
    }

    public int blocked() {
        return colony.countBlocked();
    }

    public int parts() {
        return survey.countParts(NONE);
    }

    public int walk(int from, int to) throws IndexOutOfBoundsException, NoSuchElementException {
        requireMagnet(from);
        requireMagnet(to);
        return requireFound(survey.shortestWalk(from, to));
    }

    public int bridges() {
        return survey.countBridges();
    }

    public int bridgesByFilling() {
        return survey.countBridgesByFilling();
    }

    public boolean canSettle() {
        return survey.bestTurnSet() != NONE;
    }

    public boolean canSettleByUnions() {
        return survey.canUniteCounterparts();
    }

    public int fewestTurns() throws NoSuchElementException {
        return requireFound(survey.bestTurnSetSize());
    }

    public int fewestTurnsBySets() throws NoSuchElementException {
        return requireFound(survey.smallestSettlingSet());
    }

    public int leastBlocked() {
        return survey.leastBlockedOfSets();
    }

    public int leastBlockedByBounds() {
        return survey.leastBlockedWithinBounds();
    }

    // ---- forces and fields

    public float force(int magnet) throws IndexOutOfBoundsException {
        requireMagnet(magnet);
        return forces.forceOn(magnet);
    }

    public int wholeForce(int magnet) throws IndexOutOfBoundsException {
        requireMagnet(magnet);
        return (int) forces.forceOn(magnet);
    }

    public double field(int position) throws IllegalArgumentException {
        requirePosition(position);
        return forces.fieldAt(position);
    }

    public int strongestPosition() throws NoSuchElementException {
        return requireFound(forces.positionOfStrongestField());
    }

    public int queen() throws NoSuchElementException {
        return requireFound(forces.magnetInStrongestField());
    }

    public double meanStrength() throws ArithmeticException {
        if (colony.magnets == 0) {
            throw new ArithmeticException("there are no magnets");
        }
        return (double) colony.sumOfStrengths() / (double) colony.magnets;
    }

    public float openShare() throws ArithmeticException {
        if (colony.tunnels == 0) {
            throw new ArithmeticException("there are no tunnels");
        }
        return (float) (colony.tunnels - colony.countBlocked()) / (float) colony.tunnels;
    }

    // ---- accounts

    public int turnTotal() {
        return colony.allTurns;
    }

    public int turnsOf(int magnet) throws IndexOutOfBoundsException {
        requireMagnet(magnet);
        return colony.turns[magnet];
    }

    public int moved() {
        return colony.allMoves;
    }

    // ---- texts and output lines

    public int feed(char character) throws IllegalStateException {
        if (!text.hasRoom()) {
            throw new IllegalStateException("the text buffer is full");
        }
        text.append(character);
        return text.length;
    }

    public int execute() throws IllegalArgumentException, UnsupportedOperationException {
        boolean matches = text.parse();
        text.clear();
        if (!matches) {
            keptFault = text.fault;
            throw new IllegalArgumentException("the text does not match the grammar");
        }
        beforeText.copyFrom(colony);
        for (int index = 0; index < text.commandCount; index++) {
            Command command = text.commands[index];
            int refusal = changes.judge(command.kind, command.first, command.second);
            if (refusal != ALLOWED) {
                colony.copyFrom(beforeText);
                keepDenial(COMMAND_FAILED, index, causeOf(refusal));
                throw new UnsupportedOperationException("a command failed");
            }
            changes.carryOut(command.kind, command.first, command.second, command.third);
        }
        history.push(beforeText);
        return text.commandCount;
    }

    public int faultPosition() throws NoSuchElementException {
        return requireFound(keptFault);
    }

    public int writeMagnet(int magnet) throws IndexOutOfBoundsException {
        requireMagnet(magnet);
        line.describe(colony, magnet);
        return line.length;
    }

    public char lineCharacter(int index) throws IndexOutOfBoundsException {
        if (index < 0 || index >= line.length) {
            throw new IndexOutOfBoundsException("the output line has no such index");
        }
        return line.characters[index];
    }

    // ---- the latest denial

    public int denial() throws NoSuchElementException {
        requireDenial();
        return deniedNumber;
    }

    public int denialDetail() throws NoSuchElementException {
        requireDenial();
        return deniedDetail;
    }

    public int denialCause() throws NoSuchElementException {
        if (deniedCause == ALLOWED) {
            throw new NoSuchElementException("no denial with a cause");
        }
        return deniedCause;
    }

    // ---- undo and snapshots

    public int undo() throws IllegalStateException {
        if (history.size == 0) {
            throw new IllegalStateException("no change can be undone");
        }
        history.popInto(colony);
        return history.size;
    }

    public int undoCount() {
        return history.size;
    }

    public int saveSnapshot() {
        snapshot.copyFrom(colony);
        hasSnapshot = true;
        return colony.magnets;
    }

    public int restoreSnapshot() throws IllegalStateException {
        if (!hasSnapshot) {
            throw new IllegalStateException("there is no snapshot");
        }
        colony.copyFrom(snapshot);
        history.forgetAll();
        return colony.magnets;
    }

    // ---- changes

    private int change(int kind, int first, int second, int third) {
        int refusal = changes.judge(kind, first, second);
        if (refusal != ALLOWED) {
            refuse(refusal);
        }
        history.push(colony);
        return changes.carryOut(kind, first, second, third);
    }

    private void refuse(int refusal) {
        if (refusal == NO_SUCH_INDEX) {
            throw new IndexOutOfBoundsException("there is no such index");
        }
        if (refusal == OUT_OF_RANGE) {
            throw new IllegalArgumentException("an argument is out of range");
        }
        keepDenial(refusal, changes.detail, ALLOWED);
        throw new UnsupportedOperationException("the call is denied");
    }

    private static int causeOf(int refusal) {
        return refusal < COMMAND_FAILED ? refusal : OTHER_EXCEPTION;
    }

    private void keepDenial(int number, int detail, int cause) {
        deniedNumber = number;
        deniedDetail = detail;
        deniedCause = cause;
    }

    // ---- what calls require

    private static boolean isPosition(int position) {
        return position >= 0 && position < POSITIONS;
    }

    private static boolean isStrength(int strength) {
        return strength >= 1 && strength <= MAX_STRENGTH;
    }

    private static boolean isIn(int set, int magnet) {
        return ((set >> magnet) & 1) == 1;
    }

    private static void requirePosition(int position) {
        if (!isPosition(position)) {
            throw new IllegalArgumentException("the position is out of range");
        }
    }

    private static int requireFound(int found) {
        if (found == NONE) {
            throw new NoSuchElementException("there is none");
        }
        return found;
    }

    private void requireMagnet(int magnet) {
        if (!colony.hasMagnet(magnet)) {
            throw new IndexOutOfBoundsException("there is no such magnet");
        }
    }

    private void requireTunnel(int tunnel) {
        if (!colony.hasTunnel(tunnel)) {
            throw new IndexOutOfBoundsException("there is no such tunnel");
        }
    }

    private void requireDenial() {
        if (deniedNumber == ALLOWED) {
            throw new NoSuchElementException("nothing was denied yet");
        }
    }

    /** Everything that changes can change; undo and snapshots copy it whole. */
    private static final class Colony {
        int magnets;
        final int[] positions = new int[MAX_MAGNETS];
        final int[] strengths = new int[MAX_MAGNETS];
        final int[] turns = new int[MAX_MAGNETS];
        // A set of magnets has a bit for each, so that a turn set is turned at one stroke.
        int norths;
        int tunnels;
        final int[] firsts = new int[MAX_TUNNELS];
        final int[] seconds = new int[MAX_TUNNELS];
        int allTurns;
        int allMoves;

        void copyFrom(Colony other) {
            magnets = other.magnets;
            System.arraycopy(other.positions, 0, positions, 0, MAX_MAGNETS);
            System.arraycopy(other.strengths, 0, strengths, 0, MAX_MAGNETS);
            System.arraycopy(other.turns, 0, turns, 0, MAX_MAGNETS);
            norths = other.norths;
            tunnels = other.tunnels;
            System.arraycopy(other.firsts, 0, firsts, 0, MAX_TUNNELS);
            System.arraycopy(other.seconds, 0, seconds, 0, MAX_TUNNELS);
            allTurns = other.allTurns;
            allMoves = other.allMoves;
        }

        boolean hasMagnet(int magnet) {
            return magnet >= 0 && magnet < magnets;
        }

        boolean hasTunnel(int tunnel) {
            return tunnel >= 0 && tunnel < tunnels;
        }

        int magnetOn(int position) {
            for (int magnet = 0; magnet < magnets; magnet++) {
                if (positions[magnet] == position) {
                    return magnet;
                }
            }
            return NONE;
        }

        int magnetOfRank(int rank) {
            for (int magnet = 0; magnet < magnets; magnet++) {
                if (rankOf(magnet) == rank) {
                    return magnet;
                }
            }
            return NONE;
        }

        private int rankOf(int magnet) {
            int rank = 0;
            for (int other = 0; other < magnets; other++) {
                boolean stronger = strengths[other] > strengths[magnet];
                boolean equal = strengths[other] == strengths[magnet];
                if (stronger || (equal && positions[other] < positions[magnet])) {
                    rank++;
                }
            }
            return rank;
        }

        char poleSign(int magnet) {
            return isIn(norths, magnet) ? 'n' : 's';
        }

        int sumOfStrengths() {
            int sum = 0;
            for (int magnet = 0; magnet < magnets; magnet++) {
                sum += strengths[magnet];
            }
            return sum;
        }

        int place(int position, int strength, boolean north) {
            int magnet = magnets;
            positions[magnet] = position;
            strengths[magnet] = strength;
            turns[magnet] = 0;
            if (north) {
                norths |= 1 << magnet;
            }
            magnets++;
            return magnet;
        }

        int strengthen(int magnet, int strength) {
            int before = strengths[magnet];
            strengths[magnet] = strength;
            return before;
        }

        int turnFrom(int position) {
            int set = 0;
            for (int magnet = 0; magnet < magnets; magnet++) {
                if (positions[magnet] >= position) {
                    set |= 1 << magnet;
                }
            }
            return turnSet(set);
        }

        int turnSet(int set) {
            for (int magnet = 0; magnet < magnets; magnet++) {
                if (isIn(set, magnet)) {
                    turns[magnet]++;
                }
            }
            norths ^= set;
            int size = Integer.bitCount(set);
            allTurns += size;
            return size;
        }

        int tunnelBetween(int magnet, int other) {
            for (int tunnel = 0; tunnel < tunnels; tunnel++) {
                if (otherEnd(tunnel, magnet) == other) {
                    return tunnel;
                }
            }
            return NONE;
        }

        int otherEnd(int tunnel, int magnet) {
            if (firsts[tunnel] == magnet) {
                return seconds[tunnel];
            }
            return seconds[tunnel] == magnet ? firsts[tunnel] : NONE;
        }

        boolean hasUnlikePoles(int tunnel) {
            return !isBlockedWith(norths, tunnel);
        }

        boolean isBlockedWith(int itsNorths, int tunnel) {
            return (((itsNorths >> firsts[tunnel]) ^ (itsNorths >> seconds[tunnel])) & 1) == 0;
        }

        int countBlocked() {
            return countBlockedWith(norths);
        }

        int countBlockedWith(int itsNorths) {
            int count = 0;
            for (int tunnel = 0; tunnel < tunnels; tunnel++) {
                count += isBlockedWith(itsNorths, tunnel) ? 1 : 0;
            }
            return count;
        }

        int join(int first, int second) {
            int tunnel = tunnels;
            firsts[tunnel] = first;
            seconds[tunnel] = second;
            tunnels++;
            return tunnel;
        }

        int remove(int gone) {
            tunnels--;
            for (int tunnel = gone; tunnel < tunnels; tunnel++) {
                firsts[tunnel] = firsts[tunnel + 1];
                seconds[tunnel] = seconds[tunnel + 1];
            }
            return tunnels;
        }
    }

    /** Searches over the tunnels; NONE answers that there is nothing to find. */
    private static final class Survey {
        private final Colony colony;
        // A magnet's counterpart has the label behind those of all magnets.
        private final int[] labels = new int[2 * MAX_MAGNETS];
        private final int[] distances = new int[MAX_MAGNETS];
        private final int[] numbers = new int[MAX_MAGNETS];
        private final int[] lowest = new int[MAX_MAGNETS];
        private int givenNorths;
        private int lastNumber;
        private int bridgesFound;

        Survey(Colony colony) {
            this.colony = colony;
        }

        int countParts(int withoutTunnel) {
            separateLabels();
            int count = colony.magnets;
            for (int tunnel = 0; tunnel < colony.tunnels; tunnel++) {
                if (tunnel != withoutTunnel && unite(colony.firsts[tunnel], colony.seconds[tunnel])) {
                    count--;
                }
            }
            return count;
        }

        private void separateLabels() {
            for (int node = 0; node < labels.length; node++) {
                labels[node] = node;
            }
        }

        private boolean unite(int node, int other) {
            int kept = labels[node];
            int gone = labels[other];
            if (kept == gone) {
                return false;
            }
            for (int index = 0; index < labels.length; index++) {
                if (labels[index] == gone) {
                    labels[index] = kept;
                }
            }
            return true;
        }

        int shortestWalk(int from, int to) {
            Arrays.fill(distances, NONE);
            distances[from] = 0;
            for (int length = 0; length < colony.magnets; length++) {
                for (int tunnel = 0; tunnel < colony.tunnels; tunnel++) {
                    if (colony.hasUnlikePoles(tunnel)) {
                        walkOn(colony.firsts[tunnel], colony.seconds[tunnel], length);
                        walkOn(colony.seconds[tunnel], colony.firsts[tunnel], length);
                    }
                }
            }
            return distances[to];
        }

        private void walkOn(int magnet, int next, int length) {
            if (distances[magnet] == length && distances[next] == NONE) {
                distances[next] = length + 1;
            }
        }

        int countBridges() {
            Arrays.fill(numbers, 0);
            lastNumber = 0;
            bridgesFound = 0;
            for (int magnet = 0; magnet < colony.magnets; magnet++) {
                if (numbers[magnet] == 0) {
                    explore(this, magnet, NONE, 1);
                }
            }
            return bridgesFound;
        }

        private static void explore(Survey survey, int magnet, int entry, int depth) {
            if (depth > MAX_MAGNETS) {
                return;
            }
            survey.numberMagnet(magnet);
            for (int tunnel = 0; tunnel < survey.colony.tunnels; tunnel++) {
                int next = survey.colony.otherEnd(tunnel, magnet);
                if (next == NONE || tunnel == entry) {
                    continue;
                }
                if (survey.numbers[next] != 0) {
                    survey.reachNumber(magnet, survey.numbers[next]);
                    continue;
                }
                explore(survey, next, tunnel, depth + 1);
                survey.reachNumber(magnet, survey.lowest[next]);
                // Nothing behind the tunnel leads back around it.
                if (survey.lowest[next] > survey.numbers[magnet]) {
                    survey.bridgesFound++;
                }
            }
        }

        private void numberMagnet(int magnet) {
            lastNumber++;
            numbers[magnet] = lastNumber;
            lowest[magnet] = lastNumber;
        }

        private void reachNumber(int magnet, int number) {
            lowest[magnet] = Math.min(lowest[magnet], number);
        }

        int countBridgesByFilling() {
            int whole = countParts(NONE);
            int count = 0;
            for (int tunnel = 0; tunnel < colony.tunnels; tunnel++) {
                if (countParts(tunnel) > whole) {
                    count++;
                }
            }
            return count;
        }

        boolean canUniteCounterparts() {
            separateLabels();
            for (int tunnel = 0; tunnel < colony.tunnels; tunnel++) {
                int first = colony.firsts[tunnel];
                int second = colony.seconds[tunnel];
                unite(first, second + MAX_MAGNETS);
                unite(second, first + MAX_MAGNETS);
            }
            for (int magnet = 0; magnet < colony.magnets; magnet++) {
                if (labels[magnet] == labels[magnet + MAX_MAGNETS]) {
                    return false;
                }
            }
            return true;
        }

        int bestTurnSet() {
            givenNorths = 0;
            int seen = 0;
            int set = 0;
            for (int magnet = 0; magnet < colony.magnets; magnet++) {
                if (!isIn(seen, magnet)) {
                    int part = givePolesFrom(magnet);
                    seen |= part;
                    set |= bestTurnSetOf(part, magnet);
                }
            }
            return colony.countBlockedWith(givenNorths) == 0 ? set : NONE;
        }

        private int givePolesFrom(int start) {
            int part = 1 << start;
            givenNorths |= part;
            // Each round reaches a further magnet of the part, or there is none left.
            for (int round = 1; round < colony.magnets; round++) {
                for (int tunnel = 0; tunnel < colony.tunnels; tunnel++) {
                    int ends = (1 << colony.firsts[tunnel]) | (1 << colony.seconds[tunnel]);
                    int reached = ends & ~part;
                    if (reached == 0 || reached == ends) {
                        continue;
                    }
                    part |= reached;
                    if ((ends & givenNorths) == 0) {
                        givenNorths |= reached;
                    }
                }
            }
            return part;
        }

        private int bestTurnSetOf(int part, int first) {
            // The opposite of the given poles opens the tunnels of the part just as well.
            int turned = part & (givenNorths ^ colony.norths);
            int others = part ^ turned;
            int excess = Integer.bitCount(turned) - Integer.bitCount(others);
            if (excess == 0) {
                return isIn(turned, first) ? turned : others;
            }
            return excess < 0 ? turned : others;
        }

        int bestTurnSetSize() {
            int set = bestTurnSet();
            return set == NONE ? NONE : Integer.bitCount(set);
        }

        int smallestSettlingSet() {
            int sets = 1 << colony.magnets;
            int smallest = NONE;
            for (int set = 0; set < sets; set++) {
                int size = Integer.bitCount(set);
                boolean smaller = smallest == NONE || size < smallest;
                if (smaller && colony.countBlockedWith(colony.norths ^ set) == 0) {
                    smallest = size;
                }
            }
            return smallest;
        }

        int leastBlockedOfSets() {
            int sets = 1 << colony.magnets;
            int least = colony.tunnels;
            for (int set = 0; set < sets; set++) {
                least = Math.min(least, colony.countBlockedWith(colony.norths ^ set));
            }
            return least;
        }

        int leastBlockedWithinBounds() {
            return bound(this, 0, 0, 0, colony.countBlocked());
        }

        private static int bound(Survey survey, int magnet, int norths, int blocked, int least) {
            if (blocked >= least) {
                return least;
            }
            if (magnet >= survey.colony.magnets || magnet >= MAX_MAGNETS) {
                return blocked;
            }
            int added = survey.blockedToEarlier(norths, magnet);
            int leastAsSouth = bound(survey, magnet + 1, norths, blocked + added, least);
            int withNorth = norths | (1 << magnet);
            int addedAsNorth = survey.blockedToEarlier(withNorth, magnet);
            return bound(survey, magnet + 1, withNorth, blocked + addedAsNorth, leastAsSouth);
        }

        private int blockedToEarlier(int norths, int magnet) {
            int count = 0;
            for (int tunnel = 0; tunnel < colony.tunnels; tunnel++) {
                int other = colony.otherEnd(tunnel, magnet);
                if (other != NONE && other < magnet && colony.isBlockedWith(norths, tunnel)) {
                    count++;
                }
            }
            return count;
        }
    }

    /** Forces in float, fields in double, in the order of the document, so that each bit is due. */
    private static final class Forces {
        private final Colony colony;

        Forces(Colony colony) {
            this.colony = colony;
        }

        float forceOn(int magnet) {
            float sum = 0f;
            for (int other = 0; other < colony.magnets; other++) {
                int gap = colony.positions[magnet] - colony.positions[other];
                // Only the magnet itself has no gap, and it has no force on itself.
                if (gap != 0) {
                    float size = (float) (colony.strengths[magnet] * colony.strengths[other])
                            / (float) (gap * gap);
                    boolean away = isIn(colony.norths, magnet) == isIn(colony.norths, other);
                    boolean upwards = away == (gap > 0);
                    sum = upwards ? sum + size : sum - size;
                }
            }
            return sum;
        }

        int moveEach() {
            int count = 0;
            for (int magnet = 0; magnet < colony.magnets; magnet++) {
                int target = targetOf(magnet);
                if (target != colony.positions[magnet]) {
                    colony.positions[magnet] = target;
                    count++;
                }
            }
            colony.allMoves += count;
            return count;
        }

        private int targetOf(int magnet) {
            int here = colony.positions[magnet];
            float force = forceOn(magnet);
            int there = here;
            if (force > 0f) {
                there = here + 1;
            } else if (force < 0f) {
                there = here - 1;
            }
            return isPosition(there) && colony.magnetOn(there) == NONE ? there : here;
        }

        double fieldAt(int position) {
            double sum = 0.0;
            for (int magnet = 0; magnet < colony.magnets; magnet++) {
                int gap = Math.abs(position - colony.positions[magnet]);
                double size = (double) colony.strengths[magnet] / (double) (1 + gap);
                sum = isIn(colony.norths, magnet) ? sum + size : sum - size;
            }
            return sum;
        }

        private double unsignedFieldAt(int position) {
            double field = fieldAt(position);
            return field < 0.0 ? -field : field;
        }

        int positionOfStrongestField() {
            if (colony.magnets == 0) {
                return NONE;
            }
            int strongest = 0;
            double greatest = unsignedFieldAt(0);
            for (int position = 1; position < POSITIONS; position++) {
                double field = unsignedFieldAt(position);
                if (field > greatest) {
                    strongest = position;
                    greatest = field;
                }
            }
            return strongest;
        }

        int magnetInStrongestField() {
            int strongest = NONE;
            double greatest = 0.0;
            for (int magnet = 0; magnet < colony.magnets; magnet++) {
                double field = unsignedFieldAt(colony.positions[magnet]);
                if (strongest == NONE || field > greatest) {
                    strongest = magnet;
                    greatest = field;
                }
            }
            return strongest;
        }
    }

    /** The changes, each judged before it is carried out, so that a refused one leaves no trace. */
    private static final class Changes {
        private final Colony colony;
        private final Survey survey;
        private final Forces forces;
        int detail;

        Changes(Colony colony, Survey survey, Forces forces) {
            this.colony = colony;
            this.survey = survey;
            this.forces = forces;
        }

        int judge(int kind, int first, int second) {
            switch (kind) {
                case ADD_MAGNET:
                    return judgeAdding(first, second);
                case SET_STRENGTH:
                    return judgeStrength(first, second);
                case TURN:
                    return colony.hasMagnet(first) ? ALLOWED : NO_SUCH_INDEX;
                case SHIFT:
                    return isPosition(first) ? ALLOWED : OUT_OF_RANGE;
                case DIG:
                    return judgeDigging(first, second);
                case FILL:
                    return colony.hasTunnel(first) ? ALLOWED : NO_SUCH_INDEX;
                case SETTLE:
                    return judgeSettling();
                default:
                    return ALLOWED;
            }
        }

        private int judgeAdding(int position, int strength) {
            if (!isPosition(position) || !isStrength(strength)) {
                return OUT_OF_RANGE;
            }
            if (colony.magnets >= MAX_MAGNETS) {
                return deny(LIMIT_REACHED, MAX_MAGNETS);
            }
            int holder = colony.magnetOn(position);
            return holder == NONE ? ALLOWED : deny(POSITION_TAKEN, holder);
        }

        private int judgeStrength(int magnet, int strength) {
            if (!colony.hasMagnet(magnet)) {
                return NO_SUCH_INDEX;
            }
            return isStrength(strength) ? ALLOWED : OUT_OF_RANGE;
        }

        private int judgeDigging(int first, int second) {
            if (!colony.hasMagnet(first) || !colony.hasMagnet(second)) {
                return NO_SUCH_INDEX;
            }
            if (first == second) {
                return OUT_OF_RANGE;
            }
            int tunnel = colony.tunnelBetween(first, second);
            if (tunnel != NONE) {
                return deny(TUNNEL_EXISTS, tunnel);
            }
            return colony.tunnels < MAX_TUNNELS ? ALLOWED : deny(LIMIT_REACHED, MAX_TUNNELS);
        }

        private int judgeSettling() {
            int count = colony.countBlocked();
            if (count == 0) {
                return deny(ALL_OPEN, colony.tunnels);
            }
            return survey.bestTurnSet() == NONE ? deny(NO_TURN_SET, count) : ALLOWED;
        }

        private int deny(int number, int itsDetail) {
            detail = itsDetail;
            return number;
        }

        int carryOut(int kind, int first, int second, int third) {
            switch (kind) {
                case ADD_MAGNET:
                    return colony.place(first, second, third == 1);
                case SET_STRENGTH:
                    return colony.strengthen(first, second);
                case TURN:
                    colony.turnSet(1 << first);
                    return colony.countBlocked();
                case SHIFT:
                    return colony.turnFrom(first);
                case MOVE:
                    return forces.moveEach();
                case DIG:
                    return colony.join(first, second);
                case FILL:
                    return colony.remove(first);
                default:
                    return colony.turnSet(survey.bestTurnSet());
            }
        }
    }

    /** The colony as it was before each of the latest changes, in a ring that forgets the oldest. */
    private static final class History {
        private final Colony[] ring = new Colony[MAX_CHANGES];
        private int next;
        int size;

        History() {
            for (int index = 0; index < MAX_CHANGES; index++) {
                ring[index] = new Colony();
            }
        }

        void push(Colony before) {
            ring[next].copyFrom(before);
            next = (next + 1) % MAX_CHANGES;
            size = Math.min(size + 1, MAX_CHANGES);
        }

        void popInto(Colony colony) {
            next = (next + MAX_CHANGES - 1) % MAX_CHANGES;
            size--;
            colony.copyFrom(ring[next]);
        }

        void forgetAll() {
            size = 0;
        }
    }

    /** A command of a text, with the parameters in the order of its method. */
    private static final class Command {
        int kind;
        int first;
        int second;
        int third;

        void setParameter(int index, int value) {
            switch (index) {
                case 0:
                    first = value;
                    break;
                case 1:
                    second = value;
                    break;
                default:
                    third = value;
                    break;
            }
        }
    }

    /** The text buffer, and the commands or the fault that it was parsed to last. */
    private static final class Text {
        // No terminal has a capital letter, so these stand for what is not a terminal.
        private static final char NUMBER = 'N';
        private static final char DIGIT = 'D';
        private static final char POLE = 'P';

        private final char[] characters = new char[MAX_TEXT];
        int length;
        final Command[] commands = new Command[MAX_COMMANDS];
        int commandCount;
        int fault;

        Text() {
            for (int index = 0; index < MAX_COMMANDS; index++) {
                commands[index] = new Command();
            }
        }

        boolean hasRoom() {
            return length < MAX_TEXT;
        }

        void append(char character) {
            characters[length] = character;
            length++;
        }

        void clear() {
            length = 0;
        }

        boolean parse() {
            commandCount = 0;
            fault = 0;
            int start = 0;
            for (int index = 0; index < MAX_COMMANDS; index++) {
                int end = parseCommand(start, commands[index]);
                if (end == NONE) {
                    return false;
                }
                commandCount++;
                if (end == length) {
                    return true;
                }
                if (!hasAt(end, ';')) {
                    fault = end;
                    return false;
                }
                start = end + 1;
            }
            return false;
        }

        private int parseCommand(int start, Command command) {
            for (int kind = 0; kind < KINDS; kind++) {
                int end = matchKind(kind, start, command);
                if (end != NONE) {
                    return end;
                }
            }
            return NONE;
        }

        private static String shapeOf(int kind) {
            switch (kind) {
                case ADD_MAGNET:
                    return "magnet N NP";
                case SET_STRENGTH:
                    return "strength D=N";
                case TURN:
                    return "turn D";
                case SHIFT:
                    return "shift N";
                case MOVE:
                    return "move";
                case DIG:
                    return "dig D-D";
                case FILL:
                    return "fill N";
                default:
                    return "settle";
            }
        }

        private int matchKind(int kind, int start, Command command) {
            String shape = shapeOf(kind);
            int at = start;
            int parameters = 0;
            for (int index = 0; index < shape.length(); index++) {
                char sign = shape.charAt(index);
                int width = widthOf(sign, at);
                if (width == 0) {
                    // The kind that comes farthest tells which character continues no text.
                    fault = Math.max(fault, at);
                    return NONE;
                }
                if (sign == NUMBER || sign == DIGIT || sign == POLE) {
                    command.setParameter(parameters, valueOf(sign, at, width));
                    parameters++;
                }
                at += width;
            }
            command.kind = kind;
            return at;
        }

        private int widthOf(char sign, int at) {
            if (sign == NUMBER && isDigitAt(at) && isDigitAt(at + 1)) {
                return 2;
            }
            if (sign == NUMBER || sign == DIGIT) {
                return isDigitAt(at) ? 1 : 0;
            }
            if (sign == POLE) {
                return hasAt(at, 'n') || hasAt(at, 's') ? 1 : 0;
            }
            return hasAt(at, sign) ? 1 : 0;
        }

        private boolean isDigitAt(int at) {
            return at >= 0 && at < length && characters[at] >= '0' && characters[at] <= '9';
        }

        private boolean hasAt(int at, char sign) {
            return at >= 0 && at < length && characters[at] == sign;
        }

        private int valueOf(char sign, int at, int width) {
            if (sign == POLE) {
                return hasAt(at, 'n') ? 1 : 0;
            }
            int value = characters[at] - '0';
            return width == 1 ? value : 10 * value + characters[at + 1] - '0';
        }
    }

    /** The output line. */
    private static final class Line {
        final char[] characters = new char[MAX_LINE];
        int length;

        void describe(Colony colony, int magnet) {
            length = 0;
            putNumber(magnet);
            put('@');
            putNumber(colony.positions[magnet]);
            put(colony.poleSign(magnet));
            putNumber(colony.strengths[magnet]);
            for (int tunnel = 0; tunnel < colony.tunnels; tunnel++) {
                int other = colony.otherEnd(tunnel, magnet);
                if (other != NONE) {
                    put(colony.hasUnlikePoles(tunnel) ? '=' : '#');
                    putNumber(other);
                }
            }
        }

        private void putNumber(int number) {
            if (number >= 10) {
                put((char) ('0' + number / 10));
            }
            put((char) ('0' + number % 10));
        }

        private void put(char character) {
            if (length < MAX_LINE) {
                characters[length] = character;
                length++;
            }
        }
    }
}
