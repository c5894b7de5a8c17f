/** The document's promises one by one: ordinary inputs, the edges that it names, wrong inputs. */
public final class PromisesTest {
    private static final int NONE = Run.NONE;
    private static final int[] FAR = {Integer.MIN_VALUE, -1000, 1000, Integer.MAX_VALUE};

    private static final Checks c = new Checks("promises");

    public static void main(String[] args) {
        promise1NewObject();
        promise2Cell();
        promise3Weigh();
        promise4Move();
        promise5When();
        promise6ThenIsRefused();
        promise6ThenIsDoneInOrder();
        promise6Chance();
        promise7Show();
        promise8Ends();
        promise9Of();
        promise10Macro();
        promise11Goal();
        promise12Clear();
        promise13SearchIsRefused();
        promise13SearchInBreadth();
        promise13SearchByBest();
        promise13SearchSpent();
        promise13SearchOfAllNodes();
        promise13SearchMeetsAlikeOnce();
        promise13SearchTriesMovesThenMacros();
        promise13SearchGoals();
        promise14And15LongestPlay();
        promise14And15PlayOfMacros();
        promise16Shortest();
        promise17Replays();
        promise18Node();
        promise18NodeStays();
        promise19Meet();
        promise20Seen();
        promise20SeenOfMacros();
        promise21Never();
        promise22Queue();
        promise23Begin();
        promise24Step();
        promise25Now();
        promise26Told();
        refusedCallsChangeNothing();
        c.end();
    }

    /** A new object with so many cells that are 0 at first and no clocks. */
    private static Run withCells(int count) {
        Run x = new Run("promises", c);
        for (int i = 0; i < count; i++) {
            x.cell(0, false);
        }
        return x;
    }

    /** A move more that adds v to a cell. */
    private static int adding(Run x, int cell, int v) {
        int move = x.move();
        x.then(move, 1, cell, v);
        return move;
    }

    private static int macroOf(Run x, int... moves) {
        for (int move : moves) {
            x.of(move);
        }
        return x.macro();
    }

    private static void dueNode(Run x, int node, int... due) {
        for (int what = 0; what < due.length; what++) {
            c.due("node(" + node + ", " + what + ")", x.node(node, what), due[what]);
        }
    }

    private static void dueQueue(Run x, int... due) {
        for (int i = 0; i < due.length; i++) {
            c.due("queue(" + i + ")", x.queue(i), due[i]);
        }
        x.dueThrow(-1);
        x.dueThrow(due.length);
    }

    private static void duePlay(Run x, int... due) {
        c.due("length()", x.length(), due.length);
        for (int i = 0; i < due.length; i++) {
            c.due("at(" + i + ")", x.at(i), due[i]);
        }
        c.due("at(-1)", x.at(-1), NONE);
        c.due("at(" + due.length + ")", x.at(due.length), NONE);
    }

    private static void dueNoPlay(Run x) {
        c.due("length() of none", x.length(), NONE);
        c.due("at(0) of none", x.at(0), NONE);
        c.due("at(-1) of none", x.at(-1), NONE);
        c.due("shortest() of none", x.shortest(), false);
        c.due("replays() of none", x.replays(), NONE);
    }

    private static void promise1NewObject() {
        Run x = new Run("promises", c);
        for (int what = 0; what <= 7; what++) {
            c.due("new: told(" + what + ")", x.told(what), 0);
        }
        for (int what = 0; what <= 3; what++) {
            c.due("new: now(" + what + ")", x.now(what), 0);
        }
        c.due("new: now(10)", x.now(10), NONE);
        dueNoPlay(x);
        dueQueue(x);
        c.due("new: node(0, 0)", x.node(0, 0), NONE);
        c.due("new: node(0, 2)", x.node(0, 2), NONE);
        c.due("new: meet(0, 0)", x.meet(0, 0), NONE);
        c.due("new: seen(0)", x.seen(0), false);
        c.due("new: never(0)", x.never(0), NONE);
        c.due("new: clear()", x.clear(), 0);
        c.due("new: step(0)", x.step(0), NONE);
        c.due("new: step(100)", x.step(100), NONE);
        c.due("new: search(0, 1)", x.search(0, 1), -2);
        x.begin();
        c.due("new: now(1) behind begin", x.now(1), 0);
        x.move();
        x.show(0, 3);
        c.due("without a search: never(0)", x.never(0), NONE);
    }

    private static void promise2Cell() {
        Run x = new Run("promises", c);
        c.due("cell(-1)", x.cell(-1, false), NONE);
        c.due("cell(10)", x.cell(10, false), NONE);
        for (int far : FAR) {
            c.due("cell(far)", x.cell(far, true), NONE);
        }
        for (int i = 0; i < 10; i++) {
            c.due("cell(" + i + ")", x.cell(i, i % 2 == 1), i);
        }
        c.due("an 11th cell", x.cell(0, false), NONE);
        for (int i = 0; i < 10; i++) {
            c.due("its first value", x.now(10 + i), i);
            x.weigh(i, 100);
        }
        c.due("the score of all ten", x.now(0), 4500);
        c.due("told(0)", x.told(0), 10);
    }

    private static void promise3Weigh() {
        Run x = new Run("promises", c);
        c.due("weigh without cells", x.weigh(0, 1), false);
        x.cell(9, false);
        x.cell(4, true);
        c.due("a weight at first", x.now(0), 0);
        c.due("weigh -100", x.weigh(0, -100), true);
        c.due("score", x.now(0), -900);
        c.due("weigh 100", x.weigh(1, 100), true);
        c.due("score of both, a clock too", x.now(0), -500);
        c.due("weigh 101", x.weigh(0, 101), false);
        c.due("weigh -101", x.weigh(0, -101), false);
        c.due("weigh -1", x.weigh(-1, 1), false);
        c.due("weigh 2", x.weigh(2, 1), false);
        for (int far : FAR) {
            c.due("weigh far cell", x.weigh(far, 1), false);
            c.due("weigh far weight", x.weigh(0, far), false);
        }
        c.due("score stays", x.now(0), -500);
        c.due("weigh again", x.weigh(0, 7), true);
        c.due("score anew", x.now(0), 463);
    }

    private static void promise4Move() {
        Run x = withCells(1);
        for (int i = 0; i < 24; i++) {
            c.due("move()", x.move(), i);
        }
        c.due("a 25th move", x.move(), NONE);
        c.due("told(1)", x.told(1), 24);
        c.due("a move without anything", x.step(23), 1);
        c.due("changes nothing", x.now(10), 0);
        c.due("ends nothing", x.now(1), 0);
        c.due("move 24", x.step(24), NONE);
        x.goal(2, 0, 0);
        c.due("shows nothing, not even text 0", x.search(0, 10), 0);
        c.due("nor was it seen", x.seen(0), false);
        c.due("nor never", x.never(0), NONE);
    }

    private static void promise5When() {
        Run x = new Run("promises", c);
        x.cell(5, false);
        int[][] due = {{0, 4, 0}, {0, 5, 1}, {0, 6, 0}, {1, 4, 1}, {1, 5, 0}, {1, 6, 1},
            {2, 5, 0}, {2, 6, 1}, {3, 5, 0}, {3, 4, 1}, {2, 0, 0}, {3, 9, 0}, {3, 0, 1}, {2, 9, 1}};
        for (int[] row : due) {
            int move = x.move();
            c.due("when", x.when(move, 0, row[0], row[1]), true);
            c.due("relation " + row[0] + " to " + row[1], x.step(move), row[2]);
        }
        int move = x.move();
        c.due("no such move", x.when(move + 1, 0, 0, 0), false);
        c.due("move -1", x.when(-1, 0, 0, 0), false);
        c.due("no such cell", x.when(move, 1, 0, 0), false);
        c.due("cell -1", x.when(move, -1, 0, 0), false);
        c.due("relation 4", x.when(move, 0, 4, 0), false);
        c.due("relation -1", x.when(move, 0, -1, 0), false);
        c.due("v 10", x.when(move, 0, 1, 10), false);
        c.due("v -1", x.when(move, 0, 1, -1), false);
        for (int far : FAR) {
            c.due("far move", x.when(far, 0, 0, 0), false);
            c.due("far cell", x.when(move, far, 0, 0), false);
            c.due("far relation", x.when(move, 0, far, 0), false);
            c.due("far v", x.when(move, 0, 0, far), false);
        }
        c.due("refused conditions are none", x.step(move), 1);
        for (int i = 0; i < 6; i++) {
            c.due("condition " + i, x.when(move, 0, 0, 5), true);
        }
        c.due("a 7th condition", x.when(move, 0, 0, 4), false);
        c.due("six conditions hold", x.step(move), 1);
        int other = x.move();
        for (int i = 0; i < 6; i++) {
            x.when(other, 0, 0, i < 5 ? 5 : 4);
        }
        c.due("the last of six does not hold", x.step(other), 0);
        c.due("nor touches the other move", x.step(move), 1);
    }

    private static void promise6ThenIsRefused() {
        Run x = withCells(2);
        int move = x.move();
        int[][] good = {{0, 0}, {0, 9}, {1, -9}, {1, 9}, {2, 0}, {2, 1}, {3, 1}, {3, 10}};
        int[][] bad = {{0, -1}, {0, 10}, {1, -10}, {1, 10}, {2, -1}, {2, 2}, {3, 0}, {3, 11},
            {-1, 1}, {4, 1}, {3, -1}};
        for (int[] row : good) {
            int one = x.move();
            c.due("then " + row[0] + " " + row[1], x.then(one, row[0], 1, row[1]), true);
        }
        for (int[] row : bad) {
            c.due("then " + row[0] + " " + row[1], x.then(move, row[0], 1, row[1]), false);
        }
        c.due("no such cell", x.then(move, 0, 2, 1), false);
        c.due("cell -1", x.then(move, 0, -1, 1), false);
        c.due("no such move", x.then(x.told(1), 0, 0, 1), false);
        c.due("move -1", x.then(-1, 0, 0, 1), false);
        for (int far : FAR) {
            c.due("far move", x.then(far, 0, 0, 0), false);
            c.due("far kind", x.then(move, far, 0, 0), false);
            c.due("far cell", x.then(move, 0, far, 0), false);
            for (int kind = 0; kind <= 3; kind++) {
                c.due("far v", x.then(move, kind, 0, far), false);
            }
        }
        c.due("refused effects are none", x.step(move), 1);
        c.due("cell 0", x.now(10), 0);
        c.due("cell 1", x.now(11), 0);
        for (int i = 0; i < 6; i++) {
            c.due("effect " + i, x.then(move, 1, 0, 1), true);
        }
        c.due("a 7th effect", x.then(move, 1, 0, 1), false);
        c.due("six effects", x.step(move), 1);
        c.due("all six were done", x.now(10), 6);
    }

    private static void promise6ThenIsDoneInOrder() {
        Run x = new Run("promises", c);
        x.cell(3, false);
        x.cell(8, false);
        x.cell(1, false);
        int move = x.move();
        x.then(move, 1, 0, -9);
        x.then(move, 2, 1, 0);
        x.then(move, 1, 1, 9);
        x.then(move, 0, 0, 5);
        x.then(move, 2, 2, 0);
        c.due("step", x.step(move), 1);
        c.due("set behind the rest", x.now(10), 5);
        c.due("3 - 9 is 4, copied, and 9 is 3", x.now(11), 3);
        c.due("copied late", x.now(12), 5);
        int down = adding(x, 0, -5);
        int up = adding(x, 0, 9);
        int below = adding(x, 0, -1);
        x.step(down);
        c.due("5 - 5", x.now(10), 0);
        x.step(below);
        c.due("0 - 1", x.now(10), 9);
        x.step(up);
        c.due("9 + 9", x.now(10), 8);
        int self = x.move();
        x.then(self, 2, 0, 0);
        x.step(self);
        c.due("a copy of itself", x.now(10), 8);
    }

    /** The numbers are worked out by hand (or by another program) from the document's rule. */
    private static void promise6Chance() {
        Run x = withCells(1);
        int move = x.move();
        x.then(move, 3, 0, 7);
        c.due("step", x.step(move), 1);
        c.due("132 modulo 7", x.now(10), 6);

        Run y = new Run("promises", c);
        y.cell(3, false);
        y.cell(7, false);
        y.move();
        y.move();
        int third = y.move();
        y.then(third, 0, 0, 0);
        y.then(third, 3, 1, 10);
        y.then(third, 3, 0, 8);
        c.due("step", y.step(third), 1);
        c.due("69695 modulo 8, ahead of the effects", y.now(10), 7);
        c.due("69695 modulo 10", y.now(11), 5);

        Run z = new Run("promises", c);
        for (int i = 0; i < 10; i++) {
            z.cell(9, i == 4);
        }
        int first = z.move();
        int second = z.move();
        z.then(first, 3, 0, 9);
        z.then(second, 3, 0, 6);
        z.then(second, 3, 1, 1);
        z.step(first);
        c.due("532319480 modulo 9", z.now(10), 8);
        z.begin();
        z.step(second);
        c.due("532319481 modulo 6", z.now(10), 3);
        c.due("modulo 1", z.now(11), 0);

        Run macro = withCells(1);
        int draw = macro.move();
        macro.then(draw, 3, 0, 10);
        macroOf(macro, draw, draw);
        macro.step(100);
        // 132 modulo 10 is 2; then 3 * 131 + 1 is 394
        c.due("each move of a macro has its own chance", macro.now(10), 4);
    }

    private static void promise7Show() {
        Run x = withCells(1);
        c.due("show without moves", x.show(0, 1), false);
        int move = x.move();
        c.due("show 0", x.show(move, 0), true);
        c.due("show 31", x.show(move, 31), true);
        c.due("show 32", x.show(move, 32), false);
        c.due("show -2", x.show(move, -2), false);
        c.due("show move 1", x.show(1, 1), false);
        c.due("show move -1", x.show(-1, 1), false);
        for (int far : FAR) {
            c.due("show far move", x.show(far, 1), false);
            c.due("show far text", x.show(move, far), false);
        }
        x.goal(2, 31, 0);
        c.due("the latest text counts", x.search(0, 5), 1);
        c.due("the one before it not", x.seen(0), false);
        c.due("show NONE", x.show(move, NONE), true);
        c.due("no text any more", x.search(0, 5), 0);
        c.due("nor seen", x.seen(31), false);
        c.due("nor never", x.never(0), NONE);
    }

    private static void promise8Ends() {
        Run x = withCells(1);
        c.due("ends without moves", x.ends(0, 1), false);
        int move = adding(x, 0, 1);
        c.due("ends 9", x.ends(move, 9), true);
        c.due("ends 10", x.ends(move, 10), false);
        c.due("ends -1", x.ends(move, -1), false);
        c.due("ends move 1", x.ends(1, 1), false);
        c.due("ends move -1", x.ends(-1, 1), false);
        for (int far : FAR) {
            c.due("ends far move", x.ends(far, 1), false);
            c.due("ends far ending", x.ends(move, far), false);
        }
        c.due("it can be done", x.step(move), 1);
        c.due("its effects are done", x.now(10), 1);
        c.due("and the story has ended", x.now(1), 9);
        c.due("so nothing can be done", x.step(move), 0);
        c.due("ends 0", x.ends(move, 0), true);
        c.due("it stays ended", x.now(1), 9);
        x.begin();
        c.due("no ending any more", x.step(move), 1);
        c.due("no ending", x.now(1), 0);
        c.due("again", x.step(move), 1);
    }

    private static void promise9Of() {
        Run x = withCells(1);
        c.due("of without moves", x.of(0), NONE);
        x.move();
        c.due("of(1)", x.of(1), NONE);
        c.due("of(-1)", x.of(-1), NONE);
        for (int far : FAR) {
            c.due("of(far)", x.of(far), NONE);
        }
        for (int i = 1; i <= 6; i++) {
            c.due("of(0)", x.of(0), i);
            c.due("told(4)", x.told(4), i);
        }
        c.due("a 7th in the draft", x.of(0), NONE);
        c.due("told(4)", x.told(4), 6);
        c.due("of a macro", x.of(100), NONE);
    }

    private static void promise10Macro() {
        Run x = withCells(1);
        int one = adding(x, 0, 1);
        int doubled = x.move();
        x.when(doubled, 0, 3, 1);
        x.then(doubled, 0, 0, 9);
        c.due("macro of none", x.macro(), NONE);
        x.of(one);
        c.due("macro of 1", x.macro(), NONE);
        c.due("the draft stays", x.told(4), 1);
        x.of(one);
        x.of(doubled);
        c.due("macro of 3", x.macro(), 0);
        c.due("the draft is empty", x.told(4), 0);
        c.due("told(2)", x.told(2), 1);
        c.due("its moves one behind the other", x.step(100), 1);
        c.due("in order", x.now(10), 9);
        for (int i = 1; i < 8; i++) {
            c.due("macro", macroOf(x, one, one, one, one, one, one), i);
        }
        x.begin();
        c.due("macro 7", x.step(107), 1);
        c.due("six moves", x.now(10), 6);
        c.due("a 9th macro", macroOf(x, one, one), NONE);
        c.due("the draft stays", x.told(4), 2);
        c.due("told(2)", x.told(2), 8);
        c.due("no macro 8", x.step(108), NONE);
    }

    private static void promise11Goal() {
        Run x = new Run("promises", c);
        c.due("goal of no cell", x.goal(0, 0, 0), NONE);
        x.cell(0, false);
        int[][] bad = {{0, 1, 0}, {0, -1, 0}, {0, 0, 10}, {0, 0, -1}, {2, -1, 0}, {2, 32, 0},
            {3, 0, 0}, {3, 10, 0}, {-1, 0, 0}, {4, 0, 0}};
        for (int[] g : bad) {
            c.due("goal " + g[0] + " " + g[1] + " " + g[2], x.goal(g[0], g[1], g[2]), NONE);
        }
        for (int far : FAR) {
            c.due("far kind", x.goal(far, 0, 0), NONE);
            c.due("far cell", x.goal(0, far, 0), NONE);
            c.due("far value", x.goal(0, 0, far), NONE);
            c.due("far text", x.goal(2, far, 0), NONE);
            c.due("far ending", x.goal(3, far, 0), NONE);
        }
        c.due("told(3)", x.told(3), 0);
        int[][] good = {{0, 0, 0}, {0, 0, 9}, {1, Integer.MIN_VALUE, 77}, {1, Integer.MAX_VALUE, -5},
            {2, 0, 99}, {2, 31, -99}, {3, 1, 10}, {3, 9, Integer.MIN_VALUE}};
        for (int i = 0; i < good.length; i++) {
            c.due("goal", x.goal(good[i][0], good[i][1], good[i][2]), i % 4 + 1);
            if (i % 4 == 3) {
                c.due("a 5th", x.goal(0, 0, 0), NONE);
                c.due("told(3)", x.told(3), 4);
                c.due("clear()", x.clear(), 4);
            }
        }
    }

    private static void promise12Clear() {
        Run x = withCells(1);
        int one = adding(x, 0, 1);
        c.due("clear of none", x.clear(), 0);
        x.goal(0, 0, 7);
        x.goal(1, 5000, 0);
        c.due("clear of two", x.clear(), 2);
        c.due("clear again", x.clear(), 0);
        c.due("no goal", x.search(0, 5), -2);
        x.goal(0, 0, 1);
        c.due("the old ones are gone", x.search(0, 5), 1);
        duePlay(x, one);
    }

    private static void promise13SearchIsRefused() {
        Run x = withCells(1);
        adding(x, 0, 1);
        c.due("search without goal", x.search(0, 10), -2);
        x.goal(0, 0, 2);
        c.due("found", x.search(0, 10), 1);
        c.due("how -1", x.search(-1, 10), -2);
        c.due("how 2", x.search(2, 10), -2);
        c.due("nodes 0", x.search(0, 0), -2);
        c.due("nodes 1501", x.search(1, 1501), -2);
        for (int far : FAR) {
            c.due("far how", x.search(far, 10), -2);
        }
        c.due("far nodes", x.search(0, Integer.MIN_VALUE), -2);
        c.due("far nodes", x.search(0, Integer.MAX_VALUE), -2);
        duePlay(x, 0, 0);
        x.clear();
        c.due("without goal again", x.search(0, 10), -2);
        duePlay(x, 0, 0);
        c.due("the tree stays", x.told(5), 3);
    }

    private static void promise13SearchInBreadth() {
        Run x = withCells(1);
        int five = adding(x, 0, 5);
        int one = adding(x, 0, 1);
        x.weigh(0, -1);
        x.goal(0, 0, 7);
        c.due("search", x.search(0, 1500), 1);
        duePlay(x, five, one, one);
        // 0 -> 5, 1; 5 -> (0), 6; 1 -> (6), 2; 6 -> (1), 7
        c.due("nodes", x.told(5), 6);
        dueNode(x, 1, 0, five, -5, 0, 1, 0, 1);
        dueNode(x, 2, 0, one, -1, 0, 1, 0, 1);
        dueNode(x, 3, 1, one, -6, 0, 1, 0, 2);
        dueNode(x, 4, 2, one, -2, 0, 0, 0, 2);
        dueNode(x, 5, 3, one, -7, 0, 0, 0, 3);
        dueQueue(x, 0, 1, 2, 3);
        x.clear();
        x.goal(1, 1, 0);
        c.due("none is left", x.search(0, 1500), 0);
        c.due("all ten", x.told(5), 10);
        c.due("all taken", x.told(6), 10);
        c.due("none dead", x.told(7), 0);
        dueNoPlay(x);
    }

    private static void promise13SearchByBest() {
        Run x = withCells(2);
        int five = adding(x, 0, 3);
        int other = adding(x, 1, 1);
        for (int move = five; move <= other; move++) {
            x.when(move, 1, 2, 2);
            x.when(move, 0, 2, 6);
        }
        x.weigh(0, 2);
        x.weigh(1, 6);
        x.goal(0, 0, 9);
        c.due("search", x.search(1, 100), 0);
        // (0,0) -> 1 (3,0) 6, 2 (0,1) 6; 1 -> 3 (6,0) 12, 4 (3,1) 12; 3 is dead;
        // 4 -> 5 (6,1) 18, 6 (3,2) 18: both dead; 2 -> (3,1), 7 (0,2) 12 dead
        c.due("nodes", x.told(5), 8);
        dueQueue(x, 0, 1, 3, 4, 5, 6, 2, 7);
        c.due("dead", x.told(7), 4);
        dueNode(x, 3, 1, five, 12, 0, 1, 1, 2);
        dueNode(x, 4, 1, other, 12, 0, 1, 0, 2);
        dueNode(x, 7, 2, other, 12, 0, 1, 1, 2);
        c.due("in breadth", x.search(0, 100), 0);
        dueQueue(x, 0, 1, 2, 3, 4, 5, 6, 7);
        x.weigh(0, -2);
        x.weigh(1, -6);
        c.due("scores below 0", x.search(1, 100), 0);
        // (0,0) -> 1 (3,0) -6, 2 (0,1) -6; 1 -> 3 (6,0) -12, 4 (3,1) -12;
        // 2 -> (3,1), 5 (0,2) -12; 3 is dead; 4 -> 6 (6,1) -18, 7 (3,2) -18
        dueQueue(x, 0, 1, 2, 3, 4, 5, 6, 7);
        c.due("the node by its score", x.node(5, 11), 2);
        c.due("spent at once", x.search(1, 1), -1);
        c.due("nodes", x.told(5), 1);
        x.clear();
        x.goal(1, -1000, 0);
        x.move();
        c.due("found at once", x.search(0, 100), 1);
        c.due("what was dead before is not so any more", x.told(7), 0);
        dueNode(x, 1, 0, five, -6, 0, 0, 0, 1);
        x.clear();
        x.goal(0, 0, 9);
        c.due("with a move that is always there", x.search(0, 100), 0);
        c.due("none is dead", x.told(7), 0);
        for (int node = 0; node < 8; node++) {
            c.due("not dead", x.node(node, 5), 0);
        }
    }

    private static void promise13SearchSpent() {
        Run x = withCells(1);
        adding(x, 0, 1);
        x.show(0, 8);
        x.goal(0, 0, 3);
        c.due("one too few", x.search(0, 3), -1);
        c.due("nodes", x.told(5), 3);
        dueNoPlay(x);
        dueQueue(x, 0, 1, 2);
        c.due("just enough", x.search(0, 4), 1);
        c.due("only the first", x.search(1, 1), -1);
        c.due("nodes", x.told(5), 1);
        c.due("not dead", x.node(0, 5), 0);
        c.due("seen though spent", x.seen(8), true);
        x.clear();
        x.goal(1, 1, 0);
        c.due("ten are all there are", x.search(0, 10), 0);
        c.due("nine are too few", x.search(0, 9), -1);
    }

    /** 10 * 10 * 5 * 3 worlds are as many as may be allowed. */
    private static void promise13SearchOfAllNodes() {
        Run x = withCells(4);
        int[] most = {9, 9, 4, 2};
        for (int cell = 0; cell < 4; cell++) {
            x.when(adding(x, cell, 1), cell, 2, most[cell]);
            x.weigh(cell, cell - 1);
        }
        x.goal(0, 3, 3);
        for (int how = 0; how <= 1; how++) {
            c.due("1499 nodes are too few", x.search(how, 1499), -1);
            c.due("all are tried", x.search(how, 1500), 0);
            c.due("nodes", x.told(5), 1500);
            c.due("taken", x.told(6), 1500);
            c.due("dead", x.told(7), 1);
            c.due("queue(0)", x.queue(0), 0);
            c.due("the last is taken too", x.node(1499, 4), 1);
            x.dueThrow(1500);
        }
    }

    private static void promise13SearchMeetsAlikeOnce() {
        Run x = new Run("promises", c);
        x.cell(0, false);
        x.cell(0, true);
        int tick = adding(x, 1, 1);
        int ended = x.move();
        x.ends(ended, 1);
        int endedSo = x.move();
        x.ends(endedSo, 2);
        int again = x.move();
        x.then(again, 1, 1, 5);
        x.ends(again, 2);
        x.goal(1, 1, 0);
        c.due("search", x.search(0, 100), 0);
        // alike to node 0; ended by 1; ended by 2; alike to that, ended by 2
        c.due("nodes", x.told(5), 3);
        dueNode(x, 1, 0, ended, 0, 1, 0, 0, 1);
        dueNode(x, 2, 0, endedSo, 0, 2, 0, 0, 1);
        dueQueue(x, 0);
        x.clear();
        x.goal(0, 1, 1);
        c.due("what meets the goal is new though alike", x.search(0, 100), 1);
        duePlay(x, tick);
        dueNode(x, 1, 0, tick, 0, 0, 0, 0, 1);

        Run first = withCells(1);
        first.move();
        first.goal(0, 0, 0);
        c.due("the first world is no goal, the same behind a step is", first.search(0, 2), 1);
        duePlay(first, 0);
        Run still = withCells(1);
        still.goal(0, 0, 0);
        c.due("without steps it is none", still.search(0, 2), 0);
        c.due("and dead", still.node(0, 5), 1);
    }

    private static void promise13SearchTriesMovesThenMacros() {
        Run x = withCells(1);
        int one = adding(x, 0, 1);
        c.due("macro", macroOf(x, one, one), 0);
        int two = adding(x, 0, 2);
        c.due("macro", macroOf(x, two, one), 1);
        x.goal(0, 0, 3);
        c.due("search", x.search(0, 100), 1);
        // 1, 2 by the move (the macro comes to the same), 3 by the macro
        c.due("nodes", x.told(5), 4);
        dueNode(x, 1, 0, one, 0, 0, 0, 0, 1);
        dueNode(x, 2, 0, two, 0, 0, 0, 0, 1);
        dueNode(x, 3, 0, 101, 0, 0, 0, 0, 1);
        duePlay(x, two, one);
        c.due("a step of a macro is one", x.shortest(), true);
    }

    private static void promise13SearchGoals() {
        Run x = withCells(2);
        int one = adding(x, 0, 1);
        int other = adding(x, 1, 1);
        int end = x.move();
        x.ends(end, 4);
        x.show(other, 6);
        x.show(end, 0);
        x.weigh(0, 3);
        x.goal(1, 6, 0);
        c.due("a score reached", x.search(0, 100), 1);
        duePlay(x, one, one);
        x.goal(2, 6, 0);
        c.due("and the last text", x.search(0, 100), 1);
        duePlay(x, one, one, other);
        x.clear();
        x.goal(1, 4, 0);
        c.due("a score beyond", x.search(0, 100), 1);
        c.due("six is 4 or more", x.node(x.told(5) - 1, 2), 6);
        x.goal(0, 1, 2);
        x.goal(3, 4, 0);
        c.due("and an ending", x.search(0, 1000), 1);
        duePlay(x, one, one, other, other, end);
        x.goal(2, 6, 0);
        c.due("never both texts", x.search(0, 1500), 0);
        c.due("all worlds, ended or not", x.told(5), 200);
        c.due("those not ended are taken", x.told(6), 100);
        x.clear();
        x.goal(2, 6, 0);
        int macro = macroOf(x, other, one);
        c.due("the text of a macro is its last move's", x.search(0, 100), 1);
        duePlay(x, other);
        c.due("not a macro", x.node(x.told(5) - 1, 1) == 100 + macro, false);
    }

    /** Counts to 1499 by macros of six moves; only the last changes more than a clock. */
    private static void promise14And15LongestPlay() {
        Run x = withCells(4);
        int phase = x.cell(0, true);
        int[] row = new int[6];
        for (int i = 0; i < 5; i++) {
            row[i] = x.move();
            x.when(row[i], phase, 0, i);
            x.then(row[i], 0, phase, i + 1);
        }
        for (int digit = 0; digit < 4; digit++) {
            row[5] = x.move();
            x.when(row[5], phase, 0, 5);
            x.then(row[5], 0, phase, 0);
            for (int lower = 0; lower < digit; lower++) {
                x.when(row[5], lower, 0, 9);
                x.then(row[5], 0, lower, 0);
            }
            x.when(row[5], digit, 2, 9);
            x.then(row[5], 1, digit, 1);
            macroOf(x, row);
        }
        x.goal(0, 0, 9);
        x.goal(0, 1, 9);
        x.goal(0, 2, 4);
        x.goal(0, 3, 1);
        for (int how = 0; how <= 1; how++) {
            c.due("1499 nodes are too few", x.search(how, 1499), -1);
            c.due("1500 are enough", x.search(how, 1500), 1);
            c.due("nodes", x.told(5), 1500);
            c.due("taken", x.told(6), 1499);
            c.due("length()", x.length(), 8994);
            c.due("at(0)", x.at(0), 0);
            c.due("at(5)", x.at(5), 5);
            c.due("at(59)", x.at(59), 6);
            c.due("at(599)", x.at(599), 7);
            c.due("at(5999)", x.at(5999), 8);
            c.due("at(8992)", x.at(8992), 4);
            c.due("at(8993)", x.at(8993), 5);
            c.due("at(8994)", x.at(8994), NONE);
            c.due("steps", x.node(1499, 6), 1499);
            c.due("queue", x.queue(1498), 1498);
            x.dueThrow(1499);
            c.due("replays()", x.replays(), 1);
            c.due("shortest()", x.shortest(), false);
        }
        x.clear();
        x.goal(0, 3, 9);
        c.due("spent", x.search(0, 1500), -1);
        c.due("nodes", x.told(5), 1500);
        c.due("taken", x.told(6), 1500);
    }

    private static void promise14And15PlayOfMacros() {
        Run x = withCells(1);
        int one = adding(x, 0, 1);
        int two = adding(x, 0, 2);
        x.when(two, 0, 3, 0);
        x.when(one, 0, 1, 6);
        macroOf(x, one, two, two);
        x.goal(0, 0, 8);
        c.due("search", x.search(0, 100), 1);
        // 0 -> 1, 5; 1 -> 2, 3, 6; 5 -> (6), 7; 2 -> (3), 4, (7); 3 -> (4), (5), 8
        duePlay(x, one, two, one, two, two);
        c.due("by the macro", x.node(x.told(5) - 1, 1), 100);
        c.due("its steps", x.node(x.told(5) - 1, 6), 3);
        for (int far : FAR) {
            c.due("at(far)", x.at(far), NONE);
        }
        x.clear();
        x.goal(1, 1, 0);
        c.due("a later search finds none", x.search(0, 100), 0);
        dueNoPlay(x);
    }

    private static void promise16Shortest() {
        Run x = withCells(1);
        c.due("without a search", x.shortest(), false);
        adding(x, 0, 1);
        x.goal(0, 0, 2);
        x.search(0, 10);
        c.due("in breadth", x.shortest(), true);
        x.search(1, 10);
        c.due("by best", x.shortest(), false);
        x.search(0, 10);
        x.cell(0, true);
        x.clear();
        c.due("no cell was a clock then", x.shortest(), true);
        x.goal(0, 0, 2);
        x.search(0, 10);
        c.due("a cell is a clock", x.shortest(), false);
        c.due("found all the same", x.length(), 2);
        Run y = withCells(1);
        adding(y, 0, 1);
        y.goal(0, 0, 2);
        y.search(0, 10);
        y.search(0, 2);
        c.due("spent", y.shortest(), false);
        y.clear();
        y.goal(1, 1, 0);
        y.search(0, 10);
        c.due("none", y.shortest(), false);
    }

    private static void promise17Replays() {
        Run x = withCells(1);
        int one = adding(x, 0, 1);
        c.due("without a search", x.replays(), NONE);
        x.show(one, 2);
        x.goal(2, 2, 0);
        x.goal(0, 0, 3);
        x.search(0, 10);
        c.due("at once", x.replays(), 1);
        x.step(one);
        c.due("from the first world, not now", x.replays(), 1);
        c.due("now stays", x.now(10), 1);
        x.show(one, 3);
        c.due("with texts as they are now", x.replays(), 0);
        x.show(one, 2);
        c.due("again", x.replays(), 1);
        x.goal(1, 1, 0);
        c.due("with the goal as it is now", x.replays(), 0);
        x.weigh(0, 1);
        c.due("with weights as they are now", x.replays(), 1);
        x.clear();
        c.due("without goal", x.replays(), NONE);
        x.goal(0, 0, 3);
        x.ends(one, 1);
        c.due("ended on the way", x.replays(), 0);
        x.ends(one, 0);
        x.when(one, 0, 2, 2);
        c.due("with conditions as they are now", x.replays(), 0);
        c.due("the play stays", x.length(), 3);

        Run y = withCells(1);
        int draw = y.move();
        y.then(draw, 3, 0, 10);
        y.goal(0, 0, 2);
        c.due("search", y.search(0, 10), 1);
        c.due("at once", y.replays(), 1);
        y.cell(0, false);
        // the tape tells of the new cell too: 132 * 131 + 1 is 17293
        c.due("with the cells as they are now", y.replays(), 0);

        Run ended = withCells(1);
        int end = ended.move();
        ended.ends(end, 5);
        ended.goal(3, 5, 0);
        ended.search(0, 10);
        c.due("ended at its end", ended.replays(), 1);
        ended.ends(end, 6);
        c.due("by another ending", ended.replays(), 0);
    }

    private static void promise18Node() {
        Run x = new Run("promises", c);
        x.cell(4, false);
        x.cell(7, true);
        x.weigh(0, -1);
        x.weigh(1, 1);
        int down = adding(x, 0, -4);
        x.when(down, 0, 0, 4);
        int end = x.move();
        x.ends(end, 3);
        x.when(end, 0, 0, 4);
        x.then(end, 0, 1, 0);
        macroOf(x, down, end);
        int draft = macroOf(x, down, x.move());
        x.when(2, 0, 0, 0);
        x.then(2, 0, 0, 9);
        x.then(2, 0, 1, 8);
        x.goal(0, 0, 5);
        c.due("search", x.search(0, 50), 0);
        dueNode(x, 0, NONE, NONE, 3, 0, 1, 0, 0, NONE, NONE, NONE, 4, 7, NONE);
        dueNode(x, 1, 0, down, 7, 0, 1, 0, 1, NONE, NONE, NONE, 0, 7, NONE);
        dueNode(x, 2, 0, end, -4, 3, 0, 0, 1, NONE, NONE, NONE, 4, 0, NONE);
        dueNode(x, 3, 0, 100 + draft, -1, 0, 1, 1, 1, NONE, NONE, NONE, 9, 8, NONE);
        dueNode(x, 4, NONE, NONE, NONE, NONE, NONE, NONE, NONE, NONE, NONE, NONE, NONE, NONE);
        dueNode(x, -1, NONE, NONE, NONE, NONE, NONE, NONE, NONE, NONE, NONE, NONE, NONE, NONE);
        c.due("what -1", x.node(0, -1), NONE);
        for (int far : FAR) {
            c.due("far node", x.node(far, 2), NONE);
            c.due("far what", x.node(0, far), NONE);
        }
    }

    private static void promise18NodeStays() {
        Run x = withCells(1);
        int one = adding(x, 0, 1);
        x.show(one, 4);
        x.weigh(0, 5);
        x.goal(0, 0, 2);
        x.search(0, 10);
        x.weigh(0, 9);
        x.cell(3, true);
        x.show(one, 5);
        x.ends(one, 2);
        x.when(one, 0, 0, 9);
        x.clear();
        macroOf(x, one, one);
        dueNode(x, 2, 1, one, 10, 0, 0, 0, 2, NONE, NONE, NONE, 2, NONE);
        dueNode(x, 1, 0, one, 5, 0, 1, 0, 1, NONE, NONE, NONE, 1, NONE);
        duePlay(x, one, one);
        dueQueue(x, 0, 1);
        c.due("seen(4)", x.seen(4), true);
        c.due("seen(5)", x.seen(5), false);
        c.due("never(0)", x.never(0), NONE);
        c.due("meet", x.meet(1, 2), 0);
        c.due("told(5)", x.told(5), 3);
        x.goal(0, 0, 2);
        c.due("the next search is of now", x.search(0, 10), 0);
        c.due("nodes", x.told(5), 1);
        c.due("the new cell", x.node(0, 11), 3);
        c.due("dead", x.told(7), 1);
        c.due("never(0)", x.never(0), 5);
    }

    private static void promise19Meet() {
        Run x = new Run("promises", c);
        x.cell(0, false);
        x.cell(0, true);
        int end = x.move();
        x.ends(end, 1);
        int tick = adding(x, 1, 1);
        x.ends(tick, 2);
        int one = adding(x, 0, 1);
        x.when(one, 0, 0, 0);
        x.goal(0, 0, 5);
        x.search(0, 10);
        c.due("nodes", x.told(5), 6);
        c.due("with itself", x.meet(3, 3), 1);
        c.due("the same world, ended", x.meet(0, 1), 1);
        c.due("another clock", x.meet(0, 2), 0);
        c.due("another cell", x.meet(0, 3), 0);
        c.due("both ways", x.meet(1, 0), 1);
        c.due("ended later", x.meet(3, 4), 1);
        c.due("no node 6", x.meet(0, 6), NONE);
        c.due("no node 6", x.meet(6, 0), NONE);
        c.due("no node 6", x.meet(6, 6), NONE);
        c.due("no node -1", x.meet(-1, 0), NONE);
        c.due("no node -1", x.meet(0, -1), NONE);
        for (int far : FAR) {
            c.due("far", x.meet(far, 0), NONE);
            c.due("far", x.meet(0, far), NONE);
        }
    }

    private static void promise20Seen() {
        Run x = withCells(1);
        int still = x.move();
        x.show(still, 31);
        int one = adding(x, 0, 1);
        x.show(one, 0);
        int late = x.move();
        x.show(late, 7);
        int never = x.move();
        x.when(never, 0, 0, 9);
        x.when(never, 0, 0, 8);
        x.show(never, 9);
        x.goal(0, 0, 1);
        c.due("search", x.search(0, 10), 1);
        c.due("seen where no new node came of it", x.seen(31), true);
        c.due("seen", x.seen(0), true);
        c.due("not tried, as the search was over", x.seen(7), false);
        c.due("could not be done", x.seen(9), false);
        c.due("no move has it", x.seen(5), false);
        c.due("seen(-1)", x.seen(-1), false);
        c.due("seen(32)", x.seen(32), false);
        for (int far : FAR) {
            c.due("seen(far)", x.seen(far), false);
        }
        x.step(late);
        c.due("a step now is no search", x.seen(7), false);
        x.clear();
        x.goal(1, 1, 0);
        x.search(0, 10);
        c.due("now it was tried", x.seen(7), true);
        x.show(one, NONE);
        x.search(0, 10);
        c.due("a later search forgets", x.seen(0), false);
    }

    private static void promise20SeenOfMacros() {
        Run x = withCells(1);
        int one = adding(x, 0, 1);
        x.show(one, 10);
        int two = x.move();
        x.when(two, 0, 0, 2);
        x.show(two, 11);
        macroOf(x, one, one, two);
        x.goal(3, 9, 0);
        c.due("spent by the move", x.search(0, 1), -1);
        c.due("which was done", x.seen(10), true);
        c.due("no macro was tried", x.seen(11), false);
        c.due("spent by the macro", x.search(0, 2), -1);
        c.due("which was done", x.seen(11), true);

        Run z = withCells(1);
        int tick = z.cell(0, true);
        int first = adding(z, tick, 1);
        z.show(first, 20);
        int second = z.move();
        z.when(second, tick, 0, 1);
        z.show(second, 21);
        int third = z.move();
        z.when(third, tick, 0, 2);
        z.show(third, 22);
        macroOf(z, first, second, third);
        z.goal(3, 9, 0);
        c.due("a macro that can't be done", z.search(0, 10), 0);
        c.due("its first was seen as a move", z.seen(20), true);
        c.due("its second not", z.seen(21), false);
        macroOf(z, first, second, first, third);
        c.due("a macro that can", z.search(0, 10), 0);
        c.due("all its moves", z.seen(21) && z.seen(22), true);
        c.due("though no node came of it", z.told(5), 1);
        z.ends(second, 3);
        z.search(0, 10);
        c.due("ended half way through", z.seen(21) || z.seen(22), false);
    }

    private static void promise21Never() {
        Run x = withCells(1);
        int[] texts = {31, 4, 0, 4, 17, NONE};
        for (int text : texts) {
            int move = x.move();
            x.show(move, text);
            x.when(move, 0, 0, 9);
        }
        int seen = x.move();
        x.show(seen, 8);
        c.due("without a search", x.never(0), NONE);
        x.goal(1, 1, 0);
        x.search(0, 10);
        int[] due = {0, 4, 17, 31, NONE, NONE};
        for (int k = 0; k < due.length; k++) {
            c.due("never(" + k + ")", x.never(k), due[k]);
        }
        c.due("never(-1)", x.never(-1), NONE);
        for (int far : FAR) {
            c.due("never(far)", x.never(far), NONE);
        }
        x.show(0, 30);
        x.show(seen, 29);
        c.due("it was of the moves as they were", x.never(3), 31);
        c.due("no more", x.never(4), NONE);
        x.search(0, 10);
        c.due("as they are", x.never(3), 30);
        c.due("seen ones are not among them", x.never(4), NONE);
        int same = x.move();
        x.show(same, 4);
        x.search(0, 10);
        c.due("one of several moves showed it", x.never(1), 17);
    }

    private static void promise22Queue() {
        Run x = withCells(1);
        dueQueue(x);
        adding(x, 0, 1);
        c.due("refused", x.search(0, 10), -2);
        dueQueue(x);
        x.goal(0, 0, 4);
        x.search(0, 10);
        dueQueue(x, 0, 1, 2, 3);
        for (int far : FAR) {
            x.dueThrow(far);
        }
        x.dueThrow(1499);
        x.dueThrow(1500);
        x.search(0, 1);
        dueQueue(x, 0);
        c.due("a throw changes nothing", x.told(6), 1);
        c.due("nor the tree", x.told(5), 1);
    }

    private static void promise23Begin() {
        Run x = new Run("promises", c);
        x.cell(3, false);
        int one = adding(x, 0, 1);
        int end = x.move();
        x.ends(end, 2);
        x.step(one);
        x.step(end);
        x.cell(6, true);
        c.due("a new cell has its first value now", x.now(11), 6);
        c.due("the others stay", x.now(10), 4);
        c.due("and the ending", x.now(1), 2);
        int both = adding(x, 1, 1);
        c.due("ended", x.step(both), 0);
        x.begin();
        c.due("the first world", x.now(10), 3);
        c.due("not ended", x.now(1), 0);
        c.due("all first", x.now(11), 6);
        x.step(both);
        c.due("goes on", x.now(11), 7);
        x.begin();
        c.due("begun again", x.now(11), 6);
        c.due("no search was touched", x.told(5), 0);
    }

    private static void promise24Step() {
        Run x = withCells(1);
        int one = adding(x, 0, 1);
        int big = x.move();
        x.when(big, 0, 3, 1);
        x.then(big, 0, 0, 7);
        int end = x.move();
        x.ends(end, 1);
        macroOf(x, one, one, big);
        macroOf(x, one, big, one);
        macroOf(x, one, end, one);
        macroOf(x, one, end);
        c.due("can't be done", x.step(big), 0);
        c.due("changed nothing", x.now(10), 0);
        c.due("a macro that can't half way through", x.step(101), 0);
        c.due("changed nothing", x.now(10), 0);
        c.due("a macro that would go on behind an ending", x.step(102), 0);
        c.due("changed nothing", x.now(10), 0);
        c.due("nor ended", x.now(1), 0);
        c.due("a macro", x.step(100), 1);
        c.due("its moves", x.now(10), 7);
        c.due("a move", x.step(one), 1);
        c.due("its effect", x.now(10), 8);
        c.due("a macro that ends", x.step(103), 1);
        c.due("its effects", x.now(10), 9);
        c.due("ended", x.now(1), 1);
        c.due("no move any more", x.step(one), 0);
        c.due("no macro any more", x.step(100), 0);
        int[] none = {-1, 3, 24, 99, 104, 108, 200};
        for (int step : none) {
            c.due("step(" + step + ")", x.step(step), NONE);
        }
        for (int far : FAR) {
            c.due("step(far)", x.step(far), NONE);
        }
    }

    private static void promise25Now() {
        Run x = new Run("promises", c);
        x.cell(2, false);
        x.cell(5, false);
        x.weigh(0, 10);
        x.weigh(1, -1);
        int one = adding(x, 0, 1);
        x.when(one, 0, 2, 4);
        int end = x.move();
        x.when(end, 0, 3, 2);
        x.ends(end, 6);
        macroOf(x, one, end);
        macroOf(x, one, one, one);
        c.due("score", x.now(0), 15);
        c.due("ending", x.now(1), 0);
        c.due("a move and a macro can be done", x.now(2), 2);
        c.due("that changes nothing", x.now(10), 2);
        c.due("without goal", x.now(3), 0);
        x.goal(2, 9, 0);
        c.due("but for texts", x.now(3), 1);
        x.goal(1, 25, 0);
        c.due("not yet", x.now(3), 0);
        x.step(one);
        c.due("score", x.now(0), 25);
        c.due("met", x.now(3), 1);
        c.due("both moves and a macro", x.now(2), 3);
        x.goal(3, 6, 0);
        c.due("not ended so", x.now(3), 0);
        x.step(end);
        c.due("ended so", x.now(3), 1);
        c.due("ending", x.now(1), 6);
        c.due("nothing can be done", x.now(2), 0);
        x.goal(0, 1, 4);
        c.due("a cell", x.now(3), 0);
        c.due("cell 0", x.now(10), 3);
        c.due("cell 1", x.now(11), 5);
        int[] none = {-1, 4, 5, 9, 12, 19, 20};
        for (int what : none) {
            c.due("now(" + what + ")", x.now(what), NONE);
        }
        for (int far : FAR) {
            c.due("now(far)", x.now(far), NONE);
        }
    }

    private static void promise26Told() {
        Run x = withCells(3);
        int one = adding(x, 0, 1);
        x.when(one, 0, 2, 4);
        int two = adding(x, 1, 1);
        x.when(two, 0, 0, 9);
        macroOf(x, one, one);
        macroOf(x, one, two);
        x.of(one);
        x.of(one);
        x.of(two);
        x.goal(0, 0, 9);
        x.search(0, 100);
        int[] due = {3, 2, 2, 1, 3, 5, 5, 1};
        for (int what = 0; what < due.length; what++) {
            c.due("told(" + what + ")", x.told(what), due[what]);
        }
        c.due("told(-1)", x.told(-1), NONE);
        c.due("told(8)", x.told(8), NONE);
        c.due("told(10)", x.told(10), NONE);
        for (int far : FAR) {
            c.due("told(far)", x.told(far), NONE);
        }
        x.clear();
        x.goal(0, 0, 3);
        x.search(0, 100);
        c.due("nodes", x.told(5), 4);
        c.due("taken", x.told(6), 2);
        c.due("dead", x.told(7), 0);
    }

    private static void refusedCallsChangeNothing() {
        Run x = withCells(2);
        int one = adding(x, 0, 1);
        x.of(one);
        x.goal(0, 0, 2);
        x.search(0, 10);
        x.step(one);
        for (int far : FAR) {
            x.cell(far, true);
            x.weigh(far, far);
            x.when(far, far, far, far);
            x.then(far, far, far, far);
            x.show(far, far);
            x.ends(far, far);
            x.of(far);
            x.macro();
            x.goal(far, far, far);
            x.search(far, far);
            x.step(far);
        }
        int[] due = {2, 1, 0, 1, 1, 3, 2, 0};
        for (int what = 0; what < due.length; what++) {
            c.due("told(" + what + ")", x.told(what), due[what]);
        }
        duePlay(x, one, one);
        c.due("replays()", x.replays(), 1);
        c.due("shortest()", x.shortest(), true);
        c.due("now(10)", x.now(10), 1);
        c.due("now(2)", x.now(2), 1);
    }
}
