import java.util.ArrayList;
import java.util.List;

/**
 * One new object and a run of calls on it. It remembers the latest call, to tell of a wrong answer,
 * and counts the calls, since nothing is promised past the 512th.
 */
final class Run {
    static final int NONE = PlaySearch.NONE;
    static final int MOST_CALLS = 512;

    /** Numbers far outside every range of the document; some wrap when 10 or 100 is taken. */
    static final int[] FAR = {Integer.MIN_VALUE, Integer.MIN_VALUE + 9, -1000, 1000,
        Integer.MAX_VALUE - 9, Integer.MAX_VALUE};

    /** A call, or several, that a test hands to another one. */
    interface Call {
        long on(Run x);
    }

    private final PlaySearch object = new PlaySearch();
    private final String test;
    private final Checks checks;
    private String latest = "new";
    private int calls;

    Run(String test, Checks checks) {
        this.test = test;
        this.checks = checks;
    }

    /** Another new object for the same test. */
    Run another() {
        return new Run(test, checks);
    }

    private void note(String name, Object... arguments) {
        StringBuilder text = new StringBuilder(name).append('(');
        for (int i = 0; i < arguments.length; i++) {
            text.append(i == 0 ? "" : ", ").append(arguments[i]);
        }
        latest = text.append(')').toString();
        calls++;
        if (calls > MOST_CALLS) {
            checks.due(test + ": calls of one object", calls, MOST_CALLS);
        }
    }

    private String here() {
        return test + ", call " + calls + ", " + latest;
    }

    void due(long got, long want) {
        checks.due(here(), got, want);
    }

    void due(boolean got, boolean want) {
        checks.due(here(), got, want);
    }

    void dueAll(List<Long> got, List<Long> want) {
        checks.due(here() + ": how many answers", got.size(), want.size());
        for (int i = 0; i < Math.min(got.size(), want.size()); i++) {
            checks.due(here() + ": answer " + i + " of all", got.get(i), want.get(i));
        }
    }

    void dueCalls(int want) {
        checks.due(here() + ": calls of one object", calls, want);
    }

    void dueThrow(int i) {
        note("queue", i);
        checks.dueThrow(here(), object, i);
    }

    int cell(int first, boolean isClock) {
        note("cell", first, isClock);
        return object.cell(first, isClock);
    }

    boolean weigh(int cell, int weight) {
        note("weigh", cell, weight);
        return object.weigh(cell, weight);
    }

    int move() {
        note("move");
        return object.move();
    }

    boolean when(int move, int cell, int relation, int v) {
        note("when", move, cell, relation, v);
        return object.when(move, cell, relation, v);
    }

    boolean then(int move, int kind, int cell, int v) {
        note("then", move, kind, cell, v);
        return object.then(move, kind, cell, v);
    }

    boolean show(int move, int text) {
        note("show", move, text);
        return object.show(move, text);
    }

    boolean ends(int move, int ending) {
        note("ends", move, ending);
        return object.ends(move, ending);
    }

    int of(int move) {
        note("of", move);
        return object.of(move);
    }

    int macro() {
        note("macro");
        return object.macro();
    }

    int goal(int kind, int a, int b) {
        note("goal", kind, a, b);
        return object.goal(kind, a, b);
    }

    int clear() {
        note("clear");
        return object.clear();
    }

    int search(int how, int nodes) {
        note("search", how, nodes);
        return object.search(how, nodes);
    }

    int length() {
        note("length");
        return object.length();
    }

    int at(int i) {
        note("at", i);
        return object.at(i);
    }

    boolean shortest() {
        note("shortest");
        return object.shortest();
    }

    int replays() {
        note("replays");
        return object.replays();
    }

    int node(int node, int what) {
        note("node", node, what);
        return object.node(node, what);
    }

    int meet(int a, int b) {
        note("meet", a, b);
        return object.meet(a, b);
    }

    boolean seen(int text) {
        note("seen", text);
        return object.seen(text);
    }

    int never(int k) {
        note("never", k);
        return object.never(k);
    }

    int queue(int i) {
        note("queue", i);
        return object.queue(i);
    }

    void begin() {
        note("begin");
        object.begin();
    }

    int step(int step) {
        note("step", step);
        return object.step(step);
    }

    int now(int what) {
        note("now", what);
        return object.now(what);
    }

    int told(int what) {
        note("told", what);
        return object.told(what);
    }

    /** So many cells more that are 0 at first and no clocks. */
    void cells(int count) {
        for (int i = 0; i < count; i++) {
            cell(0, false);
        }
    }

    /** A move more with one effect. */
    int moveThat(int kind, int cell, int v) {
        int move = move();
        then(move, kind, cell, v);
        return move;
    }

    int setting(int cell, int v) {
        return moveThat(0, cell, v);
    }

    int adding(int cell, int v) {
        return moveThat(1, cell, v);
    }

    /** A move more that changes nothing, with a text. */
    int showing(int text) {
        int move = move();
        show(move, text);
        return move;
    }

    /** A move more that changes nothing, with an ending. */
    int ending(int ending) {
        int move = move();
        ends(move, ending);
        return move;
    }

    int macroOf(int... moves) {
        for (int move : moves) {
            of(move);
        }
        return macro();
    }

    void dueQueue(int... due) {
        due(told(6), due.length);
        for (int i = 0; i < due.length; i++) {
            due(queue(i), due[i]);
        }
        dueThrow(due.length);
    }

    void duePlay(int... due) {
        due(length(), due.length);
        for (int i = 0; i < due.length; i++) {
            due(at(i), due[i]);
        }
    }

    void dueNoPlay() {
        due(length(), NONE);
        due(at(0), NONE);
        due(shortest(), false);
        due(replays(), NONE);
    }

    /** What queue answers, or a number that no node has where it throws. */
    private long queueOrThrow(int i) {
        try {
            return queue(i);
        } catch (ArrayIndexOutOfBoundsException e) {
            return Long.MIN_VALUE;
        }
    }

    /** All that the latest search tells, of at most five nodes, moves and texts each. */
    List<Long> toldBySearch() {
        List<Long> all = new ArrayList<>();
        for (int i = 0; i < 5; i++) {
            all.add((long) at(i));
            all.add((long) never(i));
            all.add(queueOrThrow(i));
            all.add(seen(i) ? 1L : 0L);
            all.add((long) meet(0, i));
            for (int what : new int[] {0, 1, 2, 3, 4, 5, 6, 10, 11, 12}) {
                all.add((long) node(i, what));
            }
        }
        all.add((long) length());
        all.add(shortest() ? 1L : 0L);
        for (int what = 5; what <= 7; what++) {
            all.add((long) told(what));
        }
        return all;
    }

    /** All that is told of the present and of what was made. */
    List<Long> toldNow() {
        List<Long> all = new ArrayList<>();
        for (int what = 0; what <= 4; what++) {
            all.add((long) told(what));
        }
        for (int what : new int[] {0, 1, 2, 3, 10, 11, 12, 19}) {
            all.add((long) now(what));
        }
        return all;
    }
}
