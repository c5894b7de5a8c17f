/** What the document says of the whole before its terms, and the terms that hold all together. */
final class EdgesOfAll {
    private static final int NONE = Run.NONE;
    private static final int BREADTH = 0;
    private static final int BEST = 1;

    private EdgesOfAll() {
    }

    /** One cell that one move draws, modulo 10: the tape tells 2, 4, 6, 8, 0 and so on. */
    private static void drawing(Run x) {
        x.cells(1);
        x.moveThat(3, 0, 10);
    }

    @Sentence("chance by a tape that the world itself tells")
    static void whatItIsAnEqualWorldTellsTheSame(Run x) {
        drawing(x);
        for (int due : new int[] {2, 4, 6, 8, 0, 2, 4}) {
            x.due(x.step(0), 1);
            x.due(x.now(10), due);
        }
        x.begin();
        x.step(0);
        x.due(x.now(10), 2);
        Run other = x.another();
        drawing(other);
        other.step(0);
        other.due(other.now(10), 2);
    }

    @Sentence("chance by a tape that the world itself tells")
    static void whatItIsTryingDrawsNothing(Run x) {
        drawing(x);
        x.goal(1, 1, 0);
        for (int times = 0; times < 3; times++) {
            x.due(x.now(2), 1);
            x.due(x.search(BREADTH, 10), 0);
            x.due(x.told(5), 5);
        }
        x.step(0);
        x.due(x.now(10), 2);
    }

    @Sentence("searched in breadth or by the best score")
    static void whatItIsBreadthOrBest(Run x) {
        x.cells(1);
        x.weigh(0, 1);
        x.adding(0, 1);
        x.adding(0, 3);
        x.goal(3, 1, 0);
        x.due(x.search(BREADTH, 5), NONE);
        x.dueQueue(0, 1, 2);
        x.due(x.search(BEST, 5), NONE);
        x.dueQueue(0, 2, 4);
    }

    @Sentence("with equal worlds met once")
    static void whatItIsEqualWorldsAreMetOnce(Run x) {
        x.cells(2);
        x.adding(0, 1);
        x.adding(1, 1);
        x.goal(3, 1, 0);
        for (int how = BREADTH; how <= BEST; how++) {
            x.due(x.search(how, 100), 0);
            x.due(x.told(5), 100);
            x.due(x.told(6), 100);
        }
        for (int node = 1; node < 100; node++) {
            x.due(x.meet(node, node - 1), 0);
            x.due(x.meet(node, 0), 0);
        }
    }

    @Sentence("the play found told and played again")
    static void whatItIsThePlayIsPlayedAgain(Run x) {
        drawing(x);
        x.goal(0, 0, 8);
        x.due(x.search(BREADTH, 10), 1);
        x.duePlay(0, 0, 0, 0);
        x.due(x.replays(), 1);
        for (int i = 0; i < 4; i++) {
            x.due(x.now(3), 0);
            x.due(x.step(x.at(i)), 1);
            x.due(x.now(10), x.node(i + 1, 10));
        }
        x.due(x.now(3), 1);
        x.due(x.replays(), 1);
    }

    @Sentence("and what was never shown")
    static void whatItIsNeverShown(Run x) {
        x.cells(1);
        x.showing(3);
        int never = x.showing(2);
        x.when(never, 0, 3, 9);
        x.goal(1, 1, 0);
        x.due(x.search(BREADTH, 10), 0);
        x.due(x.seen(3), true);
        x.due(x.never(0), 2);
        x.due(x.never(1), NONE);
    }

    /** A call that made objects or left some of the last search behind would show in the end. */
    @Sentence("An object is used for at most 512 calls after it has been made")
    static void whatItIsAllCallsAreTheDearest(Run x) {
        x.cells(4);
        for (int cell = 0; cell < 4; cell++) {
            x.weigh(cell, cell - 1);
            x.adding(cell, 1);
        }
        x.macroOf(0, 1, 2, 3, 0, 1);
        x.goal(3, 1, 0);
        for (int call = 25; call <= 510; call++) {
            x.due(x.search(call % 2, 1500), NONE);
        }
        x.due(x.told(5), 1500);
        x.dueThrow(1500);
        x.dueCalls(512);
    }

    @Sentence("A WORLD are the values of all CELLS.")
    static void termsAWorldOfAllCells(Run x) {
        for (int cell = 0; cell < 10; cell++) {
            x.cell(9 - cell, cell % 3 == 0);
        }
        x.adding(3, 1);
        x.adding(7, 1);
        x.goal(0, 7, 3);
        x.due(x.search(BREADTH, 2), 1);
        for (int cell = 0; cell < 10; cell++) {
            x.due(x.now(10 + cell), 9 - cell);
            x.due(x.node(0, 10 + cell), 9 - cell);
            x.due(x.node(1, 10 + cell), cell == 7 ? 3 : 9 - cell);
        }
    }

    @Sentence("each has a value 0 .. 9, a first value, a WEIGHT (0 at first), and may be a CLOCK.")
    static void termsAClockHasAllThatACellHas(Run x) {
        x.cell(4, true);
        x.weigh(0, 3);
        x.due(x.now(0), 12);
        int up = x.adding(0, 1);
        x.when(up, 0, 2, 6);
        x.goal(0, 0, 5);
        x.due(x.search(BREADTH, 2), 1);
        x.due(x.node(1, 10), 5);
        x.due(x.node(1, 2), 15);
        x.step(up);
        x.step(up);
        x.due(x.step(up), 0);
        x.due(x.now(10), 6);
        x.begin();
        x.due(x.now(10), 4);
    }

    @Sentence("SEARCH: NODES are a WORLD, whether and how the story has ended, the NODE before it"
            + " and the STEP from there.")
    static void termsWhatANodeIs(Run x) {
        x.cells(1);
        int one = x.adding(0, 1);
        x.when(one, 0, 2, 1);
        int end = x.ending(4);
        x.when(end, 0, 3, 0);
        int both = x.macroOf(one, end);
        x.goal(0, 0, 9);
        x.due(x.search(BREADTH, 3), 0);
        int[][] due = {{NONE, NONE, 0, 0}, {0, one, 0, 1}, {0, 100 + both, 4, 1}};
        for (int node = 0; node < due.length; node++) {
            x.due(x.node(node, 0), due[node][0]);
            x.due(x.node(node, 1), due[node][1]);
            x.due(x.node(node, 3), due[node][2]);
            x.due(x.node(node, 10), due[node][3]);
        }
    }

    @Sentence("MOVES by numbers, then MACROS: what comes of each is a new NODE, if it meets THE"
            + " GOAL, or no NODE has a WORLD that is ALIKE, and the same ENDING or none.")
    static void termsWhatComesOfEach(Run x) {
        x.cells(1);
        x.cell(0, true);
        x.adding(0, 1);
        x.adding(1, 1);
        x.ending(1);
        x.ending(2);
        x.ending(2);
        x.macroOf(1, 0);
        x.macroOf(0, 0);
        int goal = x.macroOf(1, 1, 1);
        x.goal(0, 1, 3);
        x.due(x.search(BREADTH, 6), 1);
        int[] steps = {NONE, 0, 2, 3, 101, 100 + goal};
        x.due(x.told(5), steps.length);
        for (int node = 0; node < steps.length; node++) {
            x.due(x.node(node, 1), steps[node]);
            x.due(x.node(node, 0), node == 0 ? NONE : 0);
        }
    }
}
