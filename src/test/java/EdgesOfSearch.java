/** The edges of promises 13 to 22: a search and what it tells. */
final class EdgesOfSearch {
    private static final int NONE = Run.NONE;
    private static final int BREADTH = 0;
    private static final int BEST = 1;

    private EdgesOfSearch() {
    }

    /** A cell that counts from 0 up, and the value of it that is the goal. */
    private static void counting(Run x, int goal) {
        x.cells(1);
        x.adding(0, 1);
        x.goal(0, 0, goal);
    }

    @Sentence("in BREADTH (how = 0) or by BEST (1)")
    static void promise13BreadthAndBest(Run x) {
        x.cells(1);
        x.adding(0, 1);
        x.adding(0, 5);
        x.weigh(0, 1);
        x.goal(0, 0, 3);
        // by 1, 5; of 5 (0) by 5 and 6 by 1: in breadth 1 is taken before 5
        x.due(x.search(0, 20), 1);
        x.due(x.queue(1), 1);
        x.due(x.search(1, 20), 1);
        x.due(x.queue(1), 2);
    }

    @Sentence("with so many NODES allowed (1 to 1500)")
    static void promise13OneNodeAllowed(Run x) {
        counting(x, 1);
        for (int how = BREADTH; how <= BEST; how++) {
            x.due(x.search(how, 1), NONE);
            x.due(x.told(5), 1);
            x.due(x.search(how, 2), 1);
            x.due(x.told(5), 2);
        }
    }

    /** 10 * 10 * 5 * 3 worlds are as many as may be allowed; one more behind the last, if asked. */
    private static void allNodes(Run x, boolean oneMore) {
        x.cells(4);
        int[] most = {9, 9, 4, 2};
        for (int cell = 0; cell < 4; cell++) {
            x.when(x.adding(cell, 1), cell, 2, most[cell]);
            x.weigh(cell, cell - 1);
        }
        if (oneMore) {
            int last = x.ending(1);
            for (int cell = 0; cell < 4; cell++) {
                x.when(last, cell, 0, most[cell]);
            }
        }
        x.goal(0, 3, 9);
    }

    @Sentence("with so many NODES allowed (1 to 1500)")
    static void promise13AllThatMayBeAllowed(Run x) {
        allNodes(x, false);
        for (int how = BREADTH; how <= BEST; how++) {
            x.due(x.search(how, 1499), NONE);
            x.due(x.told(5), 1499);
            x.due(x.search(how, 1500), 0);
            x.due(x.told(5), 1500);
            x.due(x.told(6), 1500);
            x.due(x.told(7), 1);
            x.due(x.node(1499, 4), 1);
            x.due(x.node(1500, 4), NONE);
            x.due(x.queue(0), 0);
            x.due(x.queue(1499) >= 0, true);
            x.dueThrow(1500);
        }
    }

    @Sentence("with so many NODES allowed (1 to 1500)")
    static void promise13OneMoreThanMayBeAllowed(Run x) {
        allNodes(x, true);
        for (int how = BREADTH; how <= BEST; how++) {
            x.due(x.search(how, 1500), NONE);
            x.due(x.told(5), 1500);
            x.due(x.told(7), 0);
            x.due(x.node(1499, 0) >= 0, true);
            x.due(x.node(1500, 0), NONE);
        }
    }

    @Sentence("1 FOUND, 0 none is left, NONE SPENT")
    static void promise13ThreeAnswers(Run x) {
        counting(x, 9);
        for (int how = BREADTH; how <= BEST; how++) {
            x.due(x.search(how, 10), 1);
            x.due(x.search(how, 9), -1);
            x.goal(1, 1, 0);
            x.due(x.search(how, 10), 0);
            x.clear();
            x.goal(0, 0, 9);
        }
    }

    @Sentence("-2 for another how or number")
    static void promise13AnotherHow(Run x) {
        counting(x, 1);
        x.due(x.search(-1, 10), -2);
        x.due(x.search(2, 10), -2);
        for (int far : Run.FAR) {
            x.due(x.search(far, 10), -2);
        }
        x.due(x.told(5), 0);
        x.dueThrow(0);
        x.due(x.search(0, 10), 1);
    }

    @Sentence("-2 for another how or number")
    static void promise13AnotherNumber(Run x) {
        counting(x, 1);
        for (int how = BREADTH; how <= BEST; how++) {
            x.due(x.search(how, 0), -2);
            x.due(x.search(how, -1), -2);
            x.due(x.search(how, 1501), -2);
            x.due(x.search(how, Integer.MIN_VALUE), -2);
            x.due(x.search(how, Integer.MAX_VALUE), -2);
        }
        x.due(x.told(5), 0);
        x.due(x.search(0, 1500), 1);
    }

    @Sentence("or without THE GOAL")
    static void promise13WithoutTheGoal(Run x) {
        x.cells(1);
        x.adding(0, 1);
        x.due(x.search(0, 10), -2);
        x.due(x.search(1, 1500), -2);
        x.due(x.told(5), 0);
        x.goal(0, 0, 1);
        x.due(x.search(0, 10), 1);
        x.clear();
        x.due(x.search(0, 10), -2);
        x.due(x.told(5), 2);
        x.due(x.length(), 1);
    }

    @Sentence("(MACROS as their MOVES)")
    static void promise14MacrosAsTheirMoves(Run x) {
        x.cells(2);
        int ready = x.adding(0, 1);
        int go = x.adding(1, 2);
        x.when(go, 0, 0, 1);
        int back = x.adding(0, -1);
        x.when(back, 0, 0, 1);
        x.when(ready, 0, 0, 0);
        x.macroOf(ready, go, go, back);
        x.goal(0, 1, 8);
        x.due(x.search(BREADTH, 100), 1);
        x.due(x.node(x.told(5) - 1, 6), 2);
        x.duePlay(ready, go, go, back, ready, go, go, back);
    }

    @Sentence("(MACROS as their MOVES)")
    static void promise14MovesAndMacrosMixed(Run x) {
        x.cells(1);
        int one = x.adding(0, 1);
        x.when(one, 0, 1, 6);
        int two = x.adding(0, 2);
        x.when(two, 0, 3, 0);
        x.macroOf(one, two, two);
        x.goal(0, 0, 8);
        // 0 -> 1, 5; 1 -> 2, 3, 6; 5 -> (6), 7; 2 -> (3), 4, (7); 3 -> (4), (5), 8
        x.due(x.search(BREADTH, 100), 1);
        x.duePlay(one, two, one, two, two);
        x.due(x.at(5), NONE);
    }

    /** Counts to 1499 by macros of six moves; only the last changes more than a clock. */
    private static void longest(Run x) {
        x.cells(4);
        int phase = x.cell(0, true);
        int[] row = new int[6];
        for (int i = 0; i < 5; i++) {
            row[i] = x.setting(phase, i + 1);
            x.when(row[i], phase, 0, i);
        }
        for (int digit = 0; digit < 4; digit++) {
            row[5] = x.setting(phase, 0);
            x.when(row[5], phase, 0, 5);
            for (int lower = 0; lower < digit; lower++) {
                x.when(row[5], lower, 0, 9);
                x.then(row[5], 0, lower, 0);
            }
            x.when(row[5], digit, 2, 9);
            x.then(row[5], 1, digit, 1);
            x.macroOf(row);
        }
        int[] goal = {9, 9, 4, 1};
        for (int cell = 0; cell < 4; cell++) {
            x.goal(0, cell, goal[cell]);
        }
    }

    @Sentence("How many MOVES the play FOUND by the latest SEARCH has (MACROS as their MOVES)")
    static void promise14TheLongestPlay(Run x) {
        longest(x);
        for (int how = BREADTH; how <= BEST; how++) {
            x.due(x.search(how, 1500), 1);
            x.due(x.length(), 8994);
            x.due(x.node(1499, 6), 1499);
            x.due(x.at(0), 0);
            x.due(x.at(5), 5);
            x.due(x.at(59), 6);
            x.due(x.at(599), 7);
            x.due(x.at(5999), 8);
            x.due(x.at(8993), 5);
            x.due(x.at(8994), NONE);
            x.due(x.at(9000), NONE);
            x.due(x.replays(), 1);
            x.due(x.search(how, 1499), NONE);
            x.due(x.length(), NONE);
        }
    }

    @Sentence("NONE when none was")
    static void promise14BeforeTheFirstSearch(Run x) {
        counting(x, 1);
        x.due(x.length(), NONE);
        x.search(0, 0);
        x.due(x.length(), NONE);
    }

    @Sentence("NONE when none was")
    static void promise14NoneIsLeft(Run x) {
        counting(x, 1);
        x.search(BREADTH, 10);
        x.due(x.length(), 1);
        x.goal(0, 0, 2);
        x.due(x.search(BREADTH, 10), 0);
        x.due(x.length(), NONE);
    }

    @Sentence("NONE when none was")
    static void promise14Spent(Run x) {
        counting(x, 5);
        x.search(BREADTH, 10);
        x.due(x.length(), 5);
        x.due(x.search(BREADTH, 5), NONE);
        x.due(x.length(), NONE);
        x.due(x.search(BEST, 6), 1);
        x.due(x.length(), 5);
    }

    @Sentence("MOVE i of that play; NONE when there is none such.")
    static void promise15NoSuchMove(Run x) {
        counting(x, 3);
        x.due(x.at(0), NONE);
        x.due(x.at(-1), NONE);
        x.search(BREADTH, 10);
        x.due(x.at(-1), NONE);
        x.due(x.at(0), 0);
        x.due(x.at(2), 0);
        x.due(x.at(3), NONE);
        for (int far : Run.FAR) {
            x.due(x.at(far), NONE);
        }
    }

    @Sentence("MOVE i of that play; NONE when there is none such.")
    static void promise15NoPlayAnyMore(Run x) {
        counting(x, 3);
        x.search(BREADTH, 10);
        x.search(BREADTH, 3);
        for (int i = -1; i <= 4; i++) {
            x.due(x.at(i), NONE);
        }
        x.clear();
        x.goal(0, 0, 1);
        x.search(BREADTH, 3);
        x.due(x.at(0), 0);
        x.due(x.at(1), NONE);
        x.due(x.at(2), NONE);
    }

    @Sentence("MOVE i of that play")
    static void promise15TheLastMoveOfAll(Run x) {
        x.cells(1);
        for (int move = 0; move < 23; move++) {
            x.move();
        }
        int last = x.setting(0, 1);
        x.goal(0, 0, 1);
        x.due(x.search(BREADTH, 2), 1);
        x.duePlay(last);
        x.due(last, 23);
    }

    @Sentence("(it was FOUND in BREADTH, and no CELL was a CLOCK)")
    static void promise16FoundInBreadth(Run x) {
        counting(x, 2);
        x.due(x.shortest(), false);
        x.due(x.search(BREADTH, 10), 1);
        x.due(x.shortest(), true);
        x.due(x.search(BEST, 10), 1);
        x.due(x.shortest(), false);
    }

    @Sentence("(it was FOUND in BREADTH, and no CELL was a CLOCK)")
    static void promise16NotFound(Run x) {
        counting(x, 2);
        x.search(BREADTH, 10);
        x.due(x.search(BREADTH, 2), NONE);
        x.due(x.shortest(), false);
        x.search(BREADTH, 10);
        x.goal(1, 1, 0);
        x.due(x.search(BREADTH, 10), 0);
        x.due(x.shortest(), false);
    }

    @Sentence("(it was FOUND in BREADTH, and no CELL was a CLOCK)")
    static void promise16AClock(Run x) {
        counting(x, 2);
        x.search(BREADTH, 10);
        x.cell(0, true);
        x.due(x.shortest(), true);
        x.due(x.search(BREADTH, 10), 1);
        x.due(x.shortest(), false);
        x.cell(0, false);
        x.search(BREADTH, 10);
        x.due(x.shortest(), false);
    }

    @Sentence("the fewest STEPS that any has by which THE GOAL is met")
    static void promise16FewestStepsNotMoves(Run x) {
        x.cells(1);
        int one = x.adding(0, 1);
        int two = x.adding(0, 2);
        x.macroOf(one, one, one, one);
        x.goal(0, 0, 4);
        x.due(x.search(BREADTH, 20), 1);
        x.duePlay(one, one, one, one);
        x.due(x.shortest(), true);
        x.due(x.node(x.told(5) - 1, 6), 1);
        x.due(two, 1);
    }

    @Sentence("can be done and meets THE GOAL at its end: 1, 0")
    static void promise17CanAndMeets(Run x) {
        counting(x, 2);
        x.search(BREADTH, 10);
        x.due(x.replays(), 1);
        x.when(0, 0, 2, 2);
        x.due(x.replays(), 1);
        x.when(0, 0, 2, 1);
        x.due(x.replays(), 0);
    }

    @Sentence("meets THE GOAL at its end")
    static void promise17OnTheWayIsNotAtItsEnd(Run x) {
        counting(x, 2);
        x.search(BREADTH, 10);
        x.clear();
        x.goal(0, 0, 1);
        x.due(x.replays(), 0);
        x.clear();
        x.goal(0, 0, 2);
        x.due(x.replays(), 1);
        x.goal(1, 1, 0);
        x.due(x.replays(), 0);
        x.weigh(0, 1);
        x.due(x.replays(), 1);
    }

    @Sentence("meets THE GOAL at its end")
    static void promise17TheTextOfItsLastMove(Run x) {
        x.cells(1);
        int one = x.adding(0, 1);
        int text = x.showing(0);
        x.when(text, 0, 0, 1);
        x.goal(2, 0, 0);
        x.due(x.search(BREADTH, 10), 1);
        x.duePlay(one, text);
        x.due(x.replays(), 1);
        x.show(text, NONE);
        x.due(x.replays(), 0);
        x.show(one, 0);
        x.due(x.replays(), 0);
        x.show(text, 0);
        x.due(x.replays(), 1);
    }

    @Sentence("from the first WORLD as it is now, with all as it is now")
    static void promise17NewCellsChangeTheTape(Run x) {
        x.cells(1);
        x.moveThat(3, 0, 10);
        x.goal(0, 0, 2);
        x.due(x.search(BREADTH, 10), 1);
        x.due(x.replays(), 1);
        x.cells(1);
        // with the new cell the tape tells 131 * 132 + 1, which is 17293
        x.due(x.replays(), 0);
        x.clear();
        x.goal(0, 0, 3);
        x.due(x.replays(), 1);
    }

    @Sentence("from the first WORLD as it is now, with all as it is now")
    static void promise17FromTheFirstNotThePresent(Run x) {
        counting(x, 2);
        int end = x.ending(1);
        x.search(BREADTH, 10);
        x.step(0);
        x.step(end);
        x.due(x.replays(), 1);
        x.due(x.now(10), 1);
        x.due(x.now(1), 1);
    }

    @Sentence("from the first WORLD as it is now, with all as it is now")
    static void promise17EndedOnTheWay(Run x) {
        counting(x, 2);
        x.search(BREADTH, 10);
        x.ends(0, 1);
        x.due(x.replays(), 0);
        x.clear();
        x.goal(0, 0, 1);
        x.due(x.search(BREADTH, 10), 1);
        x.due(x.replays(), 1);
        x.goal(3, 1, 0);
        x.due(x.replays(), 1);
        x.ends(0, 2);
        x.due(x.replays(), 0);
    }

    @Sentence("NONE when none was FOUND")
    static void promise17NoneWasFound(Run x) {
        counting(x, 2);
        x.due(x.replays(), NONE);
        x.search(BREADTH, 2);
        x.due(x.replays(), NONE);
        x.search(BREADTH, 3);
        x.due(x.replays(), 1);
        x.goal(1, 1, 0);
        x.search(BREADTH, 10);
        x.due(x.replays(), NONE);
    }

    @Sentence("or there is no GOAL")
    static void promise17NoGoal(Run x) {
        counting(x, 2);
        x.search(BREADTH, 10);
        x.clear();
        x.due(x.replays(), NONE);
        x.goal(1, 0, 0);
        x.due(x.replays(), 1);
    }

    @Sentence("the NODE before it (what = 0), the STEP from there (1; both NONE of NODE 0)")
    static void promise18BeforeAndStep(Run x) {
        x.cells(2);
        int one = x.adding(0, 1);
        int other = x.adding(1, 1);
        x.macroOf(one, other);
        x.goal(1, 1, 0);
        x.due(x.search(BREADTH, 4), NONE);
        x.due(x.node(0, 0), NONE);
        x.due(x.node(0, 1), NONE);
        int[] steps = {one, other, 100};
        for (int node = 1; node <= 3; node++) {
            x.due(x.node(node, 0), 0);
            x.due(x.node(node, 1), steps[node - 1]);
        }
        x.due(x.search(BREADTH, 5), NONE);
        x.due(x.node(4, 0), 1);
        x.due(x.node(4, 1), one);
    }

    @Sentence("its SCORE (2), its ENDING, 0 without (3)")
    static void promise18ScoreAndEnding(Run x) {
        x.cell(1, false);
        x.weigh(0, -1);
        x.ending(9);
        x.setting(0, 0);
        x.goal(1, 1, 0);
        x.search(BREADTH, 10);
        x.due(x.node(0, 2), -1);
        x.due(x.node(0, 3), 0);
        x.due(x.node(1, 2), -1);
        x.due(x.node(1, 3), 9);
        x.due(x.node(2, 2), 0);
        x.due(x.node(2, 3), 0);
    }

    @Sentence("whether it was taken (4), whether it is DEAD (5)")
    static void promise18TakenAndDead(Run x) {
        counting(x, 3);
        x.when(0, 0, 2, 2);
        x.ends(x.setting(0, 9), 1);
        x.when(1, 0, 2, 2);
        // 0 -> 1 (1), 2 (9, ended); 1 -> 3 (2), which is dead, and (9, ended) again
        x.due(x.search(BREADTH, 10), 0);
        int[] taken = {1, 1, 0, 1};
        int[] dead = {0, 0, 0, 1};
        for (int node = 0; node < 4; node++) {
            x.due(x.node(node, 4), taken[node]);
            x.due(x.node(node, 5), dead[node]);
        }
        x.due(x.search(BREADTH, 3), NONE);
        x.due(x.node(1, 4), 1);
        x.due(x.node(2, 4), 0);
    }

    @Sentence("how many STEPS lead to it (6)")
    static void promise18HowManySteps(Run x) {
        x.cells(1);
        x.adding(0, 1);
        x.macroOf(0, 0, 0);
        x.goal(0, 0, 8);
        // 0 -> 1, 3; 1 -> 2, 4; 3 -> (4), 6; 2 -> (3), 5; 4 -> (5), 7; 6 -> (7), 9; 5 -> (6), 8
        x.due(x.search(BREADTH, 20), 1);
        int[] due = {0, 1, 1, 2, 2, 2, 3, 3, 3, 4};
        x.due(x.told(5), due.length);
        for (int node = 0; node < due.length; node++) {
            x.due(x.node(node, 6), due[node]);
        }
    }

    @Sentence("the value of CELL k (10 + k)")
    static void promise18Values(Run x) {
        for (int cell = 0; cell < 10; cell++) {
            x.cell(cell, cell % 2 == 0);
        }
        x.setting(9, 0);
        x.then(0, 0, 0, 9);
        x.goal(0, 0, 9);
        x.due(x.search(BREADTH, 2), 1);
        for (int cell = 0; cell < 10; cell++) {
            x.due(x.node(0, 10 + cell), cell);
        }
        x.due(x.node(1, 10), 9);
        x.due(x.node(1, 11), 1);
        x.due(x.node(1, 19), 0);
        x.due(x.node(1, 20), NONE);
    }

    @Sentence("NONE (for a SCORE, too) when there is no such NODE")
    static void promise18NoSuchNode(Run x) {
        counting(x, 2);
        for (int what : new int[] {0, 1, 2, 3, 4, 5, 6, 10}) {
            x.due(x.node(0, what), NONE);
        }
        x.search(BREADTH, 10);
        for (int what : new int[] {0, 1, 2, 3, 4, 5, 6, 10}) {
            x.due(x.node(-1, what), NONE);
            x.due(x.node(3, what), NONE);
            x.due(x.node(1499, what), NONE);
            x.due(x.node(1500, what), NONE);
            for (int far : Run.FAR) {
                x.due(x.node(far, what), NONE);
            }
        }
        x.search(BREADTH, 1);
        x.due(x.node(1, 2), NONE);
        x.due(x.node(2, 6), NONE);
    }

    @Sentence("NONE (for a SCORE, too) when there is no such NODE, or what")
    static void promise18NoSuchWhat(Run x) {
        counting(x, 1);
        x.search(BREADTH, 10);
        for (int node = 0; node <= 1; node++) {
            for (int what : new int[] {-1, 7, 8, 9, 11, 19, 20}) {
                x.due(x.node(node, what), NONE);
            }
            for (int far : Run.FAR) {
                x.due(x.node(node, far), NONE);
            }
        }
        // a cell made later is none of that search
        x.cells(1);
        x.due(x.node(1, 11), NONE);
        x.due(x.node(1, 10), 1);
    }

    @Sentence("Whether two NODES have the same values in all CELLS, CLOCKS too: 1, 0")
    static void promise19ClocksToo(Run x) {
        x.cells(1);
        x.cell(0, true);
        x.ends(x.adding(1, 1), 1);
        x.ending(2);
        x.ends(x.adding(0, 1), 3);
        x.goal(1, 1, 0);
        x.search(BREADTH, 10);
        x.due(x.meet(0, 0), 1);
        // another clock, another ending, another value
        x.due(x.meet(0, 1), 0);
        x.due(x.meet(0, 2), 1);
        x.due(x.meet(2, 0), 1);
        x.due(x.meet(0, 3), 0);
        x.due(x.meet(3, 1), 0);
        x.due(x.meet(3, 3), 1);
    }

    @Sentence("Whether two NODES have the same values in all CELLS, CLOCKS too: 1, 0")
    static void promise19EachCellCounts(Run x) {
        for (int cell = 0; cell < 10; cell++) {
            x.cell(9, cell == 9);
            x.ends(x.setting(cell, 8), 1);
        }
        x.goal(1, 1, 0);
        x.search(BREADTH, 20);
        x.due(x.told(5), 11);
        for (int node = 1; node <= 10; node++) {
            x.due(x.meet(0, node), 0);
            x.due(x.meet(node, node), 1);
            x.due(x.meet(node, node % 10 + 1), 0);
        }
    }

    @Sentence("NONE when there is no such NODE")
    static void promise19NoSuchNode(Run x) {
        counting(x, 2);
        x.due(x.meet(0, 0), NONE);
        x.search(BREADTH, 10);
        x.due(x.meet(0, 2), 0);
        for (int none : new int[] {-1, 3, 1499, 1500}) {
            x.due(x.meet(0, none), NONE);
            x.due(x.meet(none, 0), NONE);
            x.due(x.meet(none, none), NONE);
        }
        for (int far : Run.FAR) {
            x.due(x.meet(0, far), NONE);
            x.due(x.meet(far, 0), NONE);
        }
        x.search(BREADTH, 2);
        x.due(x.meet(2, 2), NONE);
    }

    @Sentence("Whether a TEXT was SEEN in the latest SEARCH.")
    static void promise20NoText(Run x) {
        x.showing(0);
        x.showing(31);
        x.goal(1, 1, 0);
        x.due(x.seen(0), false);
        x.due(x.search(BREADTH, 1), 0);
        x.due(x.seen(0), true);
        x.due(x.seen(31), true);
        for (int none : new int[] {-1, -32, -33, 32, 63, 64}) {
            x.due(x.seen(none), false);
        }
        for (int far : Run.FAR) {
            x.due(x.seen(far), false);
        }
    }

    @Sentence("Whether a TEXT was SEEN in the latest SEARCH.")
    static void promise20TheLatestSearchAlone(Run x) {
        x.showing(12);
        x.goal(1, 1, 0);
        x.search(BREADTH, 1);
        x.due(x.seen(12), true);
        x.show(0, 13);
        x.search(BREADTH, 1);
        x.due(x.seen(12), false);
        x.due(x.seen(13), true);
        x.show(0, 14);
        x.step(0);
        x.due(x.seen(14), false);
    }

    @Sentence("The k-th TEXT, by numbers, that some MOVE had and that was not SEEN")
    static void promise21ByNumbers(Run x) {
        x.cells(1);
        int[] texts = {31, 4, 0, 4, 17, NONE};
        for (int text : texts) {
            x.when(x.showing(text), 0, 0, 9);
        }
        x.showing(8);
        x.goal(1, 1, 0);
        x.search(BREADTH, 1);
        int[] due = {0, 4, 17, 31, NONE};
        for (int k = 0; k < due.length; k++) {
            x.due(x.never(k), due[k]);
        }
    }

    @Sentence("that some MOVE had and that was not SEEN in the latest SEARCH")
    static void promise21SeenByAnotherMove(Run x) {
        x.cells(1);
        x.when(x.showing(3), 0, 0, 9);
        x.when(x.showing(5), 0, 0, 9);
        x.showing(3);
        x.goal(1, 1, 0);
        x.search(BREADTH, 1);
        x.due(x.never(0), 5);
        x.due(x.never(1), NONE);
        // not seen where the search was over before, and a move had it then
        x.clear();
        x.goal(0, 0, 0);
        x.showing(9);
        x.search(BREADTH, 2);
        x.show(3, NONE);
        x.due(x.never(0), 5);
        x.due(x.never(1), 9);
        x.due(x.never(2), NONE);
    }

    @Sentence("NONE when there is none such")
    static void promise21NoneSuch(Run x) {
        x.cells(1);
        x.when(x.showing(3), 0, 0, 9);
        x.due(x.never(0), NONE);
        x.goal(1, 1, 0);
        x.search(BREADTH, 1);
        x.due(x.never(0), 3);
        x.due(x.never(-1), NONE);
        x.due(x.never(1), NONE);
        x.due(x.never(3), NONE);
        x.due(x.never(32), NONE);
        for (int far : Run.FAR) {
            x.due(x.never(far), NONE);
        }
    }

    @Sentence("NONE when there is none such")
    static void promise21AsManyAsThereCanBe(Run x) {
        x.cells(1);
        for (int move = 0; move < 24; move++) {
            x.when(x.showing(31 - move), 0, 0, 9);
        }
        x.goal(1, 1, 0);
        x.search(BREADTH, 1);
        for (int k = 0; k < 24; k++) {
            x.due(x.never(k), 8 + k);
        }
        x.due(x.never(24), NONE);
    }

    @Sentence("The NODE that was taken as the i-th.")
    static void promise22TheOrder(Run x) {
        x.cells(1);
        for (int v = 1; v <= 4; v++) {
            x.when(x.setting(0, v), 0, 0, 0);
        }
        x.weigh(0, 1);
        x.goal(0, 0, 9);
        x.search(BEST, 5);
        int[] due = {0, 4, 3, 2, 1};
        for (int i = 0; i < due.length; i++) {
            x.due(x.queue(i), due[i]);
        }
        x.dueThrow(5);
    }

    @Sentence("ArrayIndexOutOfBoundsException: there is none such.")
    static void promise22BeforeTheFirstSearch(Run x) {
        x.dueThrow(0);
        x.dueThrow(-1);
        x.dueThrow(1500);
        counting(x, 1);
        x.due(x.search(0, 0), -2);
        x.dueThrow(0);
    }

    @Sentence("ArrayIndexOutOfBoundsException: there is none such.")
    static void promise22NoneSuch(Run x) {
        counting(x, 3);
        x.search(BREADTH, 10);
        x.due(x.queue(2), 2);
        // node 3 is the goal and was not taken
        x.dueThrow(3);
        x.dueThrow(-1);
        x.dueThrow(1499);
        x.dueThrow(1500);
        for (int far : Run.FAR) {
            x.dueThrow(far);
        }
        x.due(x.queue(2), 2);
        x.due(x.told(6), 3);
    }

    @Sentence("ArrayIndexOutOfBoundsException: there is none such.")
    static void promise22FewerThanBefore(Run x) {
        counting(x, 3);
        x.search(BREADTH, 10);
        x.search(BREADTH, 1);
        x.due(x.queue(0), 0);
        x.dueThrow(1);
        x.dueThrow(2);
    }
}
