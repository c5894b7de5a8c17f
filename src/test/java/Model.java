import java.util.ArrayList;
import java.util.Arrays;
import java.util.List;
import java.util.TreeSet;

/** The document told a second time, as plainly as can be: lists, copies and looks at everything. */
final class Model {
    static final class Cell {
        int first;
        int weight;
        boolean isClock;
    }

    static final class Move {
        final List<int[]> conditions = new ArrayList<>();
        final List<int[]> effects = new ArrayList<>();
        int text = -1;
        int ending = 0;
    }

    /** A state of the story: a world, how it ended, the text of the last move, all texts shown. */
    static final class State {
        int[] world;
        int ending = 0;
        int lastText = -1;
        final List<Integer> shown = new ArrayList<>();

        State(int[] world) {
            this.world = world.clone();
        }

        State copy() {
            State other = new State(world);
            other.ending = ending;
            other.lastText = lastText;
            other.shown.addAll(shown);
            return other;
        }
    }

    static final class Node {
        State state;
        int before;
        int step;
        int score;
        int steps;
        boolean taken;
        boolean dead;
    }

    final List<Cell> cells = new ArrayList<>();
    final List<Move> moves = new ArrayList<>();
    final List<List<Integer>> macros = new ArrayList<>();
    List<Integer> draft = new ArrayList<>();
    final List<int[]> goals = new ArrayList<>();
    State now = new State(new int[0]);

    List<Node> nodes = new ArrayList<>();
    List<Integer> queue = new ArrayList<>();
    List<Integer> play = null;
    TreeSet<Integer> seen = new TreeSet<>();
    TreeSet<Integer> unseen = new TreeSet<>();
    boolean shortest = false;

    int cell(int first, boolean isClock) {
        if (cells.size() == 10 || first < 0 || first > 9) {
            return -1;
        }
        Cell cell = new Cell();
        cell.first = first;
        cell.isClock = isClock;
        cells.add(cell);
        now.world = Arrays.copyOf(now.world, cells.size());
        now.world[cells.size() - 1] = first;
        return cells.size() - 1;
    }

    boolean noCell(int cell) {
        return cell < 0 || cell >= cells.size();
    }

    boolean noMove(int move) {
        return move < 0 || move >= moves.size();
    }

    boolean weigh(int cell, int weight) {
        if (noCell(cell) || weight < -100 || weight > 100) {
            return false;
        }
        cells.get(cell).weight = weight;
        return true;
    }

    int move() {
        if (moves.size() == 24) {
            return -1;
        }
        moves.add(new Move());
        return moves.size() - 1;
    }

    boolean when(int move, int cell, int relation, int v) {
        if (noMove(move) || noCell(cell) || relation < 0 || relation > 3 || v < 0 || v > 9
                || moves.get(move).conditions.size() == 6) {
            return false;
        }
        return moves.get(move).conditions.add(new int[] {cell, relation, v});
    }

    boolean then(int move, int kind, int cell, int v) {
        if (noMove(move) || noCell(cell) || moves.get(move).effects.size() == 6) {
            return false;
        }
        boolean good = kind == 0 && v >= 0 && v <= 9 || kind == 1 && v >= -9 && v <= 9
                || kind == 2 && !noCell(v) || kind == 3 && v >= 1 && v <= 10;
        return good && moves.get(move).effects.add(new int[] {kind, cell, v});
    }

    boolean show(int move, int text) {
        if (noMove(move) || text < -1 || text > 31) {
            return false;
        }
        moves.get(move).text = text;
        return true;
    }

    boolean ends(int move, int ending) {
        if (noMove(move) || ending < 0 || ending > 9) {
            return false;
        }
        moves.get(move).ending = ending;
        return true;
    }

    int of(int move) {
        if (noMove(move) || draft.size() == 6) {
            return -1;
        }
        draft.add(move);
        return draft.size();
    }

    int macro() {
        if (draft.size() < 2 || macros.size() == 8) {
            return -1;
        }
        macros.add(draft);
        draft = new ArrayList<>();
        return macros.size() - 1;
    }

    int goal(int kind, int a, int b) {
        boolean good = kind == 0 && !noCell(a) && b >= 0 && b <= 9 || kind == 1
                || kind == 2 && a >= 0 && a <= 31 || kind == 3 && a >= 1 && a <= 9;
        if (!good || goals.size() == 4) {
            return -1;
        }
        goals.add(new int[] {kind, a, b});
        return goals.size();
    }

    int clear() {
        int had = goals.size();
        goals.clear();
        return had;
    }

    int score(int[] world) {
        int sum = 0;
        for (int i = 0; i < world.length; i++) {
            sum += world[i] * cells.get(i).weight;
        }
        return sum;
    }

    int[] firstWorld() {
        int[] world = new int[cells.size()];
        for (int i = 0; i < world.length; i++) {
            world[i] = cells.get(i).first;
        }
        return world;
    }

    static long chance(int[] world, int move) {
        long h = 0;
        for (int value : world) {
            h = (131 * h + value + 1) % 2147483647L;
        }
        return (131 * h + move + 1) % 2147483647L;
    }

    /** What a move makes of a state; null when it can't be done. */
    State doMove(int number, State from) {
        Move move = moves.get(number);
        if (from.ending != 0) {
            return null;
        }
        for (int[] c : move.conditions) {
            int value = from.world[c[0]];
            boolean holds = c[1] == 0 ? value == c[2] : c[1] == 1 ? value != c[2]
                    : c[1] == 2 ? value < c[2] : value > c[2];
            if (!holds) {
                return null;
            }
        }
        long chance = chance(from.world, number);
        State to = from.copy();
        for (int[] e : move.effects) {
            int old = to.world[e[1]];
            to.world[e[1]] = e[0] == 0 ? e[2] : e[0] == 1 ? (old + e[2] + 10) % 10
                    : e[0] == 2 ? to.world[e[2]] : (int) (chance % e[2]);
        }
        to.ending = move.ending;
        to.lastText = move.text;
        if (move.text >= 0) {
            to.shown.add(move.text);
        }
        return to;
    }

    List<Integer> movesOf(int step) {
        return step >= 100 ? macros.get(step - 100) : List.of(step);
    }

    State doStep(int step, State from) {
        State to = from;
        for (int move : movesOf(step)) {
            to = to == null ? null : doMove(move, to);
        }
        return to;
    }

    List<Integer> allSteps() {
        List<Integer> steps = new ArrayList<>();
        for (int i = 0; i < moves.size(); i++) {
            steps.add(i);
        }
        for (int i = 0; i < macros.size(); i++) {
            steps.add(100 + i);
        }
        return steps;
    }

    boolean meets(State state, boolean textsToo) {
        for (int[] g : goals) {
            boolean so = g[0] == 0 ? state.world[g[1]] == g[2]
                    : g[0] == 1 ? score(state.world) >= g[1]
                    : g[0] == 2 ? !textsToo || state.lastText == g[1]
                    : state.ending == g[1];
            if (!so) {
                return false;
            }
        }
        return !goals.isEmpty();
    }

    boolean alike(int[] a, int[] b) {
        for (int i = 0; i < a.length; i++) {
            if (!cells.get(i).isClock && a[i] != b[i]) {
                return false;
            }
        }
        return true;
    }

    boolean isMet(State state) {
        for (Node node : nodes) {
            if (alike(node.state.world, state.world) && node.state.ending == state.ending) {
                return true;
            }
        }
        return false;
    }

    void addNode(int before, int step, State state) {
        Node node = new Node();
        node.before = before;
        node.step = step;
        node.state = state;
        node.score = score(state.world);
        node.steps = before < 0 ? 0 : nodes.get(before).steps + 1;
        nodes.add(node);
    }

    int nextOpen(int how) {
        int next = -1;
        for (int i = 0; i < nodes.size(); i++) {
            Node node = nodes.get(i);
            if (!node.taken && node.state.ending == 0
                    && (next < 0 || how == 1 && node.score > nodes.get(next).score)) {
                next = i;
            }
        }
        return next;
    }

    int search(int how, int allowed) {
        if (how < 0 || how > 1 || allowed < 1 || allowed > 1500 || goals.isEmpty()) {
            return -2;
        }
        nodes = new ArrayList<>();
        queue = new ArrayList<>();
        play = null;
        shortest = false;
        seen = new TreeSet<>();
        int result = searchOn(how, allowed);
        unseen = new TreeSet<>();
        for (Move move : moves) {
            if (move.text >= 0 && !seen.contains(move.text)) {
                unseen.add(move.text);
            }
        }
        if (result == 1) {
            shortest = how == 0;
            for (Cell cell : cells) {
                shortest &= !cell.isClock;
            }
            play = new ArrayList<>();
            for (int i = nodes.size() - 1; i > 0; i = nodes.get(i).before) {
                play.addAll(0, movesOf(nodes.get(i).step));
            }
        }
        return result;
    }

    int searchOn(int how, int allowed) {
        addNode(-1, -1, new State(firstWorld()));
        for (int taken = nextOpen(how); taken >= 0; taken = nextOpen(how)) {
            nodes.get(taken).taken = true;
            nodes.get(taken).dead = true;
            queue.add(taken);
            for (int step : allSteps()) {
                State from = new State(nodes.get(taken).state.world);
                State to = doStep(step, from);
                if (to == null) {
                    continue;
                }
                nodes.get(taken).dead = false;
                seen.addAll(to.shown);
                boolean isGoal = meets(to, true);
                if (!isGoal && isMet(to)) {
                    continue;
                }
                if (nodes.size() == allowed) {
                    return -1;
                }
                addNode(taken, step, to);
                if (isGoal) {
                    return 1;
                }
            }
        }
        return 0;
    }

    int length() {
        return play == null ? -1 : play.size();
    }

    int at(int i) {
        return play == null || i < 0 || i >= play.size() ? -1 : play.get(i);
    }

    boolean shortest() {
        return shortest;
    }

    int replays() {
        if (play == null || goals.isEmpty()) {
            return -1;
        }
        State state = new State(firstWorld());
        for (int move : play) {
            state = doMove(move, state);
            if (state == null) {
                return 0;
            }
        }
        return meets(state, true) ? 1 : 0;
    }

    int node(int number, int what) {
        if (number < 0 || number >= nodes.size()) {
            return -1;
        }
        Node node = nodes.get(number);
        int[] told = {node.before, node.step, node.score, node.state.ending, node.taken ? 1 : 0,
            node.dead ? 1 : 0, node.steps};
        return what >= 0 && what < told.length ? told[what] : valueAsked(node.state.world, what);
    }

    static int valueAsked(int[] world, int what) {
        return what >= 10 && what < 10 + world.length ? world[what - 10] : -1;
    }

    int meet(int a, int b) {
        if (a < 0 || b < 0 || a >= nodes.size() || b >= nodes.size()) {
            return -1;
        }
        return Arrays.equals(nodes.get(a).state.world, nodes.get(b).state.world) ? 1 : 0;
    }

    boolean seen(int text) {
        return seen.contains(text);
    }

    int never(int k) {
        return k < 0 || k >= unseen.size() ? -1 : new ArrayList<>(unseen).get(k);
    }

    /** Long.MIN_VALUE where the call throws. */
    long queue(int i) {
        return i < 0 || i >= queue.size() ? Long.MIN_VALUE : queue.get(i);
    }

    void begin() {
        now = new State(firstWorld());
    }

    int step(int step) {
        if (!allSteps().contains(step)) {
            return -1;
        }
        State to = doStep(step, now);
        now = to == null ? now : to;
        return to == null ? 0 : 1;
    }

    int now(int what) {
        switch (what) {
            case 0:
                return score(now.world);
            case 1:
                return now.ending;
            case 2:
                int can = 0;
                for (int step : allSteps()) {
                    can += doStep(step, now) == null ? 0 : 1;
                }
                return can;
            case 3:
                return meets(now, false) ? 1 : 0;
            default:
                return valueAsked(now.world, what);
        }
    }

    int told(int what) {
        int dead = 0;
        for (Node node : nodes) {
            dead += node.dead ? 1 : 0;
        }
        int[] told = {cells.size(), moves.size(), macros.size(), goals.size(), draft.size(),
            nodes.size(), queue.size(), dead};
        return what >= 0 && what < told.length ? told[what] : -1;
    }
}
