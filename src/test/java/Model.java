import java.util.ArrayDeque;
import java.util.ArrayList;
import java.util.Comparator;
import java.util.Deque;
import java.util.HashSet;
import java.util.List;
import java.util.NoSuchElementException;
import java.util.Set;
import java.util.TreeSet;
import java.util.regex.Matcher;
import java.util.regex.Pattern;

/** The document once more, slow and by other ways than the class: sets, lists and regular expressions. */
final class Model {
    private static final String COMMAND =
            "(magnet \\d{1,2} \\d{1,2}[ns]|turn \\d|dig \\d-\\d|fill \\d{1,2}|settle|shift \\d{1,2}|move|strength \\d=\\d{1,2})";
    private static final Pattern TEXT = Pattern.compile(COMMAND + "(;" + COMMAND + ")*");

    private static final class Magnet {
        int position;
        int strength;
        boolean north;
        int turns;

        Magnet(int position, int strength, boolean north, int turns) {
            this.position = position;
            this.strength = strength;
            this.north = north;
            this.turns = turns;
        }
    }

    private static final class State {
        final List<Magnet> magnets = new ArrayList<>();
        final List<int[]> tunnels = new ArrayList<>();
        int moved;

        State copy() {
            State copy = new State();
            for (Magnet m : magnets) {
                copy.magnets.add(new Magnet(m.position, m.strength, m.north, m.turns));
            }
            for (int[] tunnel : tunnels) {
                copy.tunnels.add(tunnel.clone());
            }
            copy.moved = moved;
            return copy;
        }

        boolean like(int[] tunnel) {
            return magnets.get(tunnel[0]).north == magnets.get(tunnel[1]).north;
        }
    }

    private State state = new State();
    private Deque<State> changes = new ArrayDeque<>();
    private State snapshot;
    private String buffer = "";
    private String line = "";
    private Integer fault;
    private int[] denied;
    private boolean inText;

    // ---- changes

    int addMagnet(int position, int strength, boolean north) {
        if (position < 0 || position > 99 || strength < 1 || strength > 30) {
            throw new IllegalArgumentException();
        }
        if (state.magnets.size() == 9) {
            throw denied(1, 9);
        }
        for (int i = 0; i < state.magnets.size(); i++) {
            if (state.magnets.get(i).position == position) {
                throw denied(2, i);
            }
        }
        remember();
        state.magnets.add(new Magnet(position, strength, north, 0));
        return state.magnets.size() - 1;
    }

    int setStrength(int magnet, int strength) {
        Magnet m = at(magnet);
        if (strength < 1 || strength > 30) {
            throw new IllegalArgumentException();
        }
        remember();
        int before = m.strength;
        at(magnet).strength = strength;
        return before;
    }

    int turn(int magnet) {
        at(magnet);
        remember();
        turnOne(magnet);
        return blocked();
    }

    int shift(int position) {
        inRow(position);
        remember();
        int count = 0;
        for (int i = 0; i < state.magnets.size(); i++) {
            if (at(i).position >= position) {
                turnOne(i);
                count++;
            }
        }
        return count;
    }

    int move() {
        remember();
        int count = 0;
        for (int i = 0; i < state.magnets.size(); i++) {
            float force = force(i);
            int target = at(i).position + (force > 0 ? 1 : force < 0 ? -1 : 0);
            boolean taken = state.magnets.stream().anyMatch(m -> m.position == target);
            if (!taken && target >= 0 && target <= 99) {
                at(i).position = target;
                state.moved++;
                count++;
            }
        }
        return count;
    }

    int dig(int first, int second) {
        at(first);
        at(second);
        if (first == second) {
            throw new IllegalArgumentException();
        }
        for (int i = 0; i < state.tunnels.size(); i++) {
            if (Set.of(first, second).equals(Set.of(state.tunnels.get(i)[0], state.tunnels.get(i)[1]))) {
                throw denied(3, i);
            }
        }
        if (state.tunnels.size() == 16) {
            throw denied(1, 16);
        }
        remember();
        state.tunnels.add(new int[] {first, second});
        return state.tunnels.size() - 1;
    }

    int fill(int tunnel) {
        tunnel(tunnel);
        remember();
        state.tunnels.remove(tunnel);
        return state.tunnels.size();
    }

    int settle() {
        if (blocked() == 0) {
            throw denied(5, state.tunnels.size());
        }
        Set<Integer> best = bestTurnSet();
        if (best == null) {
            throw denied(4, blocked());
        }
        remember();
        best.forEach(this::turnOne);
        return best.size();
    }

    private void turnOne(int magnet) {
        at(magnet).north = !at(magnet).north;
        at(magnet).turns++;
    }

    // ---- questions

    int magnetCount() {
        return state.magnets.size();
    }

    int position(int magnet) {
        return at(magnet).position;
    }

    int strength(int magnet) {
        return at(magnet).strength;
    }

    char pole(int magnet) {
        return at(magnet).north ? 'n' : 's';
    }

    int magnetAt(int position) {
        inRow(position);
        for (int i = 0; i < state.magnets.size(); i++) {
            if (at(i).position == position) {
                return i;
            }
        }
        throw new NoSuchElementException();
    }

    int magnetByStrength(int rank) {
        List<Magnet> sorted = new ArrayList<>(state.magnets);
        sorted.sort(Comparator.comparingInt((Magnet m) -> -m.strength).thenComparingInt(m -> m.position));
        if (rank < 0 || rank >= sorted.size()) {
            throw new NoSuchElementException();
        }
        return state.magnets.indexOf(sorted.get(rank));
    }

    int tunnelCount() {
        return state.tunnels.size();
    }

    boolean isOpen(int tunnel) {
        return !state.like(tunnel(tunnel));
    }

    int blocked() {
        return (int) state.tunnels.stream().filter(state::like).count();
    }

    int parts() {
        return partsOf(state.tunnels);
    }

    private int partsOf(List<int[]> tunnels) {
        Set<Set<Integer>> parts = new HashSet<>();
        for (int i = 0; i < state.magnets.size(); i++) {
            Set<Integer> part = new TreeSet<>(Set.of(i));
            boolean grown = true;
            while (grown) {
                grown = false;
                for (int[] t : tunnels) {
                    if (part.contains(t[0]) || part.contains(t[1])) {
                        grown |= part.add(t[0]) | part.add(t[1]);
                    }
                }
            }
            parts.add(part);
        }
        return parts.size();
    }

    int walk(int from, int to) {
        at(from);
        at(to);
        Set<Integer> reached = new HashSet<>(Set.of(from));
        for (int length = 0; length <= 9; length++) {
            if (reached.contains(to)) {
                return length;
            }
            Set<Integer> next = new HashSet<>(reached);
            for (int[] t : state.tunnels) {
                if (!state.like(t) && (reached.contains(t[0]) || reached.contains(t[1]))) {
                    next.add(t[0]);
                    next.add(t[1]);
                }
            }
            reached = next;
        }
        throw new NoSuchElementException();
    }

    int bridges() {
        int count = 0;
        for (int[] tunnel : state.tunnels) {
            List<int[]> others = new ArrayList<>(state.tunnels);
            others.remove(tunnel);
            count += partsOf(others) > parts() ? 1 : 0;
        }
        return count;
    }

    private int blockedAfter(Set<Integer> turned) {
        int count = 0;
        for (int[] t : state.tunnels) {
            boolean like = state.like(t) == (turned.contains(t[0]) == turned.contains(t[1]));
            count += like ? 1 : 0;
        }
        return count;
    }

    private static Set<Integer> members(int bits) {
        Set<Integer> members = new TreeSet<>();
        for (int i = 0; i < 9; i++) {
            if ((bits >> i & 1) == 1) {
                members.add(i);
            }
        }
        return members;
    }

    private Set<Integer> bestTurnSet() {
        Set<Integer> best = null;
        for (int bits = 0; bits < 1 << state.magnets.size(); bits++) {
            Set<Integer> set = members(bits);
            if (blockedAfter(set) == 0 && (best == null || isBetter(set, best))) {
                best = set;
            }
        }
        return best;
    }

    private static boolean isBetter(Set<Integer> set, Set<Integer> other) {
        if (set.size() != other.size()) {
            return set.size() < other.size();
        }
        TreeSet<Integer> alone = new TreeSet<>(set);
        alone.removeAll(other);
        TreeSet<Integer> otherAlone = new TreeSet<>(other);
        otherAlone.removeAll(set);
        return alone.first() < otherAlone.first();
    }

    boolean canSettle() {
        return bestTurnSet() != null;
    }

    int fewestTurns() {
        Set<Integer> best = bestTurnSet();
        if (best == null) {
            throw new NoSuchElementException();
        }
        return best.size();
    }

    int leastBlocked() {
        int least = state.tunnels.size();
        for (int bits = 0; bits < 1 << state.magnets.size(); bits++) {
            least = Math.min(least, blockedAfter(members(bits)));
        }
        return least;
    }

    float force(int magnet) {
        Magnet on = at(magnet);
        float force = 0;
        for (Magnet from : state.magnets) {
            if (from == on) {
                continue;
            }
            float product = on.strength * from.strength;
            float square = (on.position - from.position) * (on.position - from.position);
            int awayFrom = on.position > from.position ? 1 : -1;
            int direction = on.north == from.north ? awayFrom : -awayFrom;
            if (direction > 0) {
                force += product / square;
            } else {
                force -= product / square;
            }
        }
        return force;
    }

    int wholeForce(int magnet) {
        return (int) force(magnet);
    }

    double field(int position) {
        inRow(position);
        double field = 0;
        for (Magnet m : state.magnets) {
            double part = (double) m.strength / (1 + Math.abs(m.position - position));
            if (m.north) {
                field += part;
            } else {
                field -= part;
            }
        }
        return field;
    }

    int strongestPosition() {
        if (state.magnets.isEmpty()) {
            throw new NoSuchElementException();
        }
        int best = 99;
        for (int position = 98; position >= 0; position--) {
            if (Math.abs(field(position)) >= Math.abs(field(best))) {
                best = position;
            }
        }
        return best;
    }

    int queen() {
        if (state.magnets.isEmpty()) {
            throw new NoSuchElementException();
        }
        int best = state.magnets.size() - 1;
        for (int i = best; i >= 0; i--) {
            if (Math.abs(field(position(i))) >= Math.abs(field(position(best)))) {
                best = i;
            }
        }
        return best;
    }

    double meanStrength() {
        if (state.magnets.isEmpty()) {
            throw new ArithmeticException();
        }
        return state.magnets.stream().mapToInt(m -> m.strength).sum() / (double) state.magnets.size();
    }

    float openShare() {
        if (state.tunnels.isEmpty()) {
            throw new ArithmeticException();
        }
        return (float) (state.tunnels.size() - blocked()) / state.tunnels.size();
    }

    int turnTotal() {
        return state.magnets.stream().mapToInt(m -> m.turns).sum();
    }

    int turnsOf(int magnet) {
        return at(magnet).turns;
    }

    int moved() {
        return state.moved;
    }

    // ---- texts and output lines

    int feed(char character) {
        if (buffer.length() == 60) {
            throw new IllegalStateException();
        }
        buffer += character;
        return buffer.length();
    }

    int execute() {
        String text = buffer;
        buffer = "";
        if (!TEXT.matcher(text).matches()) {
            fault = faultOf(text);
            throw new IllegalArgumentException();
        }
        State before = state.copy();
        String[] commands = text.split(";");
        inText = true;
        int index = 0;
        try {
            for (; index < commands.length; index++) {
                carryOut(commands[index]);
            }
        } catch (UnsupportedOperationException e) {
            state = before;
            denied = new int[] {6, index, denied[0]};
            throw e;
        } catch (RuntimeException e) {
            state = before;
            denied = new int[] {6, index, 7};
            throw new UnsupportedOperationException();
        } finally {
            inText = false;
        }
        remember(before);
        return commands.length;
    }

    /** A prefix can be continued if the pattern still wants to read on at its end, or matches it. */
    private static int faultOf(String text) {
        for (int length = 1; length <= text.length(); length++) {
            Matcher matcher = TEXT.matcher(text.substring(0, length));
            if (!matcher.matches() && !matcher.hitEnd()) {
                return length - 1;
            }
        }
        return text.length();
    }

    private void carryOut(String command) {
        String[] words = command.split("[ =-]");
        switch (words[0]) {
            case "magnet" -> {
                int end = words[2].length() - 1;
                addMagnet(Integer.parseInt(words[1]), Integer.parseInt(words[2].substring(0, end)),
                        words[2].charAt(end) == 'n');
            }
            case "turn" -> turn(Integer.parseInt(words[1]));
            case "dig" -> dig(Integer.parseInt(words[1]), Integer.parseInt(words[2]));
            case "fill" -> fill(Integer.parseInt(words[1]));
            case "settle" -> settle();
            case "shift" -> shift(Integer.parseInt(words[1]));
            case "move" -> move();
            default -> setStrength(Integer.parseInt(words[1]), Integer.parseInt(words[2]));
        }
    }

    int faultPosition() {
        if (fault == null) {
            throw new NoSuchElementException();
        }
        return fault;
    }

    int writeMagnet(int magnet) {
        Magnet m = at(magnet);
        String written = magnet + "@" + m.position + (m.north ? "n" : "s") + m.strength;
        for (int[] t : state.tunnels) {
            if (t[0] == magnet || t[1] == magnet) {
                written += (state.like(t) ? "#" : "=") + (t[0] + t[1] - magnet);
            }
        }
        line = written;
        return line.length();
    }

    char lineCharacter(int index) {
        if (index < 0 || index >= line.length()) {
            throw new IndexOutOfBoundsException();
        }
        return line.charAt(index);
    }

    // ---- denials, undo and snapshots

    int denial(int which) {
        if (denied == null || denied[which] == 0 && which == 2) {
            throw new NoSuchElementException();
        }
        return denied[which];
    }

    private UnsupportedOperationException denied(int number, int detail) {
        denied = new int[] {number, detail, 0};
        return new UnsupportedOperationException();
    }

    private void remember() {
        if (!inText) {
            remember(state.copy());
        }
    }

    private void remember(State before) {
        changes.addLast(before);
        if (changes.size() > 8) {
            changes.removeFirst();
        }
    }

    int undo() {
        if (changes.isEmpty()) {
            throw new IllegalStateException();
        }
        state = changes.removeLast();
        return changes.size();
    }

    int undoCount() {
        return changes.size();
    }

    int saveSnapshot() {
        snapshot = state.copy();
        return state.magnets.size();
    }

    int restoreSnapshot() {
        if (snapshot == null) {
            throw new IllegalStateException();
        }
        state = snapshot.copy();
        changes.clear();
        return state.magnets.size();
    }

    private Magnet at(int magnet) {
        if (magnet < 0 || magnet >= state.magnets.size()) {
            throw new IndexOutOfBoundsException();
        }
        return state.magnets.get(magnet);
    }

    private int[] tunnel(int tunnel) {
        if (tunnel < 0 || tunnel >= state.tunnels.size()) {
            throw new IndexOutOfBoundsException();
        }
        return state.tunnels.get(tunnel);
    }

    private static void inRow(int position) {
        if (position < 0 || position > 99) {
            throw new IllegalArgumentException();
        }
    }
}
