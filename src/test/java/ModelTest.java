/**
 * Runs of calls, drawn by a fixed rule, made on the class and on the model, answer by answer. The
 * runs differ in how many cells and moves they like to have, so that searches are found, spent,
 * and left with none, in small trees and large ones.
 */
public final class ModelTest {
    private static final int RUNS = 1500;
    // a search is asked about at once by some thirty calls, and past 512 no answer is promised
    private static final int CALLS = 480;

    private final Checks checks;
    private final int run;
    private final Run x;
    private final Model m = new Model();
    private long drawn;

    private ModelTest(Checks checks, int run) {
        this.checks = checks;
        this.run = run;
        this.x = new Run("run " + run, checks);
        this.drawn = 77 + 1000003L * run;
    }

    public static void main(String[] args) {
        Checks checks = new Checks("model");
        int[] results = new int[4];
        for (int run = 0; run < RUNS; run++) {
            new ModelTest(checks, run).play(results);
        }
        System.out.println("searches: refused " + results[0] + ", spent " + results[1]
                + ", none left " + results[2] + ", found " + results[3]);
        for (int kind = 0; kind < results.length; kind++) {
            checks.due("some searches ended as " + (kind - 2), results[kind] > 100, true);
        }
        checks.end();
    }

    private int below(int bound) {
        drawn = drawn * 6364136223846793005L + 1442695040888963407L;
        return (int) ((drawn >>> 33) % bound);
    }

    private int between(int least, int most) {
        return least + below(most - least + 1);
    }

    /** Mostly a number that there is, now and then one beside it or far off. */
    private int numberOf(int count) {
        int kind = below(40);
        if (kind == 0) {
            return below(2) == 0 ? -1 : count;
        }
        if (kind == 1) {
            int[] far = {Integer.MIN_VALUE, Integer.MAX_VALUE, -2, count + 1, 100, 1500};
            return far[below(far.length)];
        }
        return count == 0 ? 0 : below(count);
    }

    private int numberBetween(int least, int most) {
        return least + numberOf(most - least + 1);
    }

    private void due(String call, long got, long want) {
        checks.due("run " + run + ": " + call, got, want);
    }

    private void play(int[] results) {
        int cells = between(1, 10);
        int moves = between(1, 14);
        boolean clocks = below(3) == 0;
        for (int i = 0; i < cells; i++) {
            cell(clocks);
        }
        for (int i = 0; i < moves; i++) {
            move();
        }
        int made = cells + moves;
        while (made < CALLS) {
            made += calls(results, clocks);
        }
    }

    private int calls(int[] results, boolean clocks) {
        int kind = below(100);
        if (kind < 2) {
            return cell(clocks);
        } else if (kind < 5) {
            return move();
        } else if (kind < 30) {
            return part();
        } else if (kind < 37) {
            return draft();
        } else if (kind < 45) {
            return goal();
        } else if (kind < 50) {
            return search(results) + askSearch(30);
        } else if (kind < 65) {
            return askSearch(3);
        } else {
            return walk();
        }
    }

    private int cell(boolean clocks) {
        int first = numberBetween(0, 9);
        boolean isClock = clocks && below(3) == 0;
        due("cell(" + first + ", " + isClock + ")", x.cell(first, isClock), m.cell(first, isClock));
        return 1;
    }

    private int move() {
        due("move()", x.move(), m.move());
        return 1;
    }

    private int part() {
        int move = numberOf(m.moves.size());
        int cell = numberOf(m.cells.size());
        switch (below(8)) {
            case 0: {
                int weight = numberBetween(-100, 100);
                due("weigh", bit(x.weigh(cell, weight)), bit(m.weigh(cell, weight)));
                return 1;
            }
            case 1:
            case 2: {
                int relation = numberBetween(0, 3);
                int v = numberBetween(0, 9);
                due("when", bit(x.when(move, cell, relation, v)),
                        bit(m.when(move, cell, relation, v)));
                return 1;
            }
            case 3:
            case 4:
            case 5: {
                int kind = numberBetween(0, 3);
                int v = numberBetween(kind == 1 ? -9 : 0, kind == 3 ? 10 : 9);
                due("then(" + move + ", " + kind + ", " + cell + ", " + v + ")",
                        bit(x.then(move, kind, cell, v)), bit(m.then(move, kind, cell, v)));
                return 1;
            }
            case 6: {
                int text = numberBetween(-1, 31);
                due("show", bit(x.show(move, text)), bit(m.show(move, text)));
                return 1;
            }
            default: {
                int ending = below(2) == 0 ? 0 : numberBetween(0, 9);
                due("ends", bit(x.ends(move, ending)), bit(m.ends(move, ending)));
                return 1;
            }
        }
    }

    private int draft() {
        if (below(4) == 0) {
            due("macro()", x.macro(), m.macro());
        } else {
            int move = numberOf(m.moves.size());
            due("of(" + move + ")", x.of(move), m.of(move));
        }
        return 1;
    }

    private int goal() {
        if (m.goals.size() > 1 && below(2) == 0 || below(12) == 0) {
            due("clear()", x.clear(), m.clear());
            return 1;
        }
        int kind = below(3) == 0 ? numberBetween(0, 3) : 0;
        int a = kind == 0 ? numberOf(m.cells.size()) : kind == 1 ? between(-300, 900)
                : kind == 2 ? numberBetween(0, 31) : numberBetween(1, 9);
        int b = kind == 0 ? numberBetween(0, 9) : between(-20, 20);
        due("goal(" + kind + ", " + a + ", " + b + ")", x.goal(kind, a, b), m.goal(kind, a, b));
        return 1;
    }

    private int search(int[] results) {
        int made = m.goals.isEmpty() && below(5) > 0 ? goal() : 0;
        int how = numberBetween(0, 1);
        int[] sizes = {1, 2, 5, 20, 60, 200, 1500};
        int most = sizes[below(sizes.length)];
        int nodes = below(20) == 0 ? numberBetween(1, 1500) : between(1, most);
        int result = x.search(how, nodes);
        due("search(" + how + ", " + nodes + ")", result, m.search(how, nodes));
        results[result + 2]++;
        return made + 1;
    }

    private int askSearch(int times) {
        for (int i = 0; i < times; i++) {
            askOnce();
        }
        return times;
    }

    private void askOnce() {
        int node = below(3) == 0 && !m.nodes.isEmpty()
                ? m.nodes.size() - 1 : numberOf(m.nodes.size());
        switch (below(10)) {
            case 0:
                due("length()", x.length(), m.length());
                break;
            case 1: {
                int i = numberOf(Math.max(0, m.length()));
                due("at(" + i + ")", x.at(i), m.at(i));
                break;
            }
            case 2:
                due("shortest()", bit(x.shortest()), bit(m.shortest()));
                break;
            case 3:
                due("replays()", x.replays(), m.replays());
                break;
            case 4: {
                int other = numberOf(m.nodes.size());
                due("meet(" + node + ", " + other + ")", x.meet(node, other), m.meet(node, other));
                break;
            }
            case 5: {
                int text = numberBetween(0, 31);
                due("seen(" + text + ")", bit(x.seen(text)), bit(m.seen(text)));
                break;
            }
            case 6: {
                int k = numberOf(m.unseen.size());
                due("never(" + k + ")", x.never(k), m.never(k));
                break;
            }
            case 7: {
                int i = numberOf(m.queue.size());
                due("queue(" + i + ")", queueOf(i), m.queue(i));
                break;
            }
            default: {
                int what = below(3) == 0 ? 10 + numberOf(m.cells.size()) : numberBetween(0, 9);
                due("node(" + node + ", " + what + ")", x.node(node, what), m.node(node, what));
                break;
            }
        }
    }

    private long queueOf(int i) {
        try {
            return x.queue(i);
        } catch (ArrayIndexOutOfBoundsException e) {
            return Long.MIN_VALUE;
        }
    }

    private int walk() {
        int kind = below(10);
        if (kind == 0) {
            x.begin();
            m.begin();
        } else if (kind < 6) {
            int step = below(3) == 0 ? 100 + numberOf(m.macros.size()) : numberOf(m.moves.size());
            due("step(" + step + ")", x.step(step), m.step(step));
        } else if (kind < 9) {
            int what = below(2) == 0 ? 10 + numberOf(m.cells.size()) : numberBetween(0, 4);
            due("now(" + what + ")", x.now(what), m.now(what));
        } else {
            int what = numberBetween(0, 8);
            due("told(" + what + ")", x.told(what), m.told(what));
        }
        return 1;
    }

    private static long bit(boolean answer) {
        return answer ? 1 : 0;
    }
}
