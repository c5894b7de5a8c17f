/** The edges that the document's terms name of a search and its nodes. */
final class EdgesOfNodes {
    private static final int NONE = Run.NONE;
    private static final int BREADTH = 0;
    private static final int BEST = 1;

    private EdgesOfNodes() {
    }

    @Sentence("NODE 0 is the first WORLD (it is no GOAL).")
    static void termsTheFirstIsNoGoal(Run x) {
        x.cell(3, false);
        x.goal(0, 0, 3);
        x.due(x.search(BREADTH, 1), 0);
        x.dueNoPlay();
        x.due(x.node(0, 10), 3);
        int still = x.move();
        x.due(x.search(BREADTH, 2), 1);
        x.duePlay(still);
        x.due(x.meet(0, 1), 1);
    }

    @Sentence("NODE 0 is the first WORLD")
    static void termsTheFirstAndNotThePresent(Run x) {
        x.cell(3, false);
        int one = x.adding(0, 1);
        int end = x.ending(2);
        x.step(one);
        x.step(end);
        x.goal(0, 0, 4);
        x.due(x.search(BREADTH, 9), 1);
        x.due(x.node(0, 10), 3);
        x.due(x.node(0, 3), 0);
        x.duePlay(one);
    }

    @Sentence("NODES OPEN are those of which STEPS were not tried, unless they have ended.")
    static void termsEndedNodesAreNeverTaken(Run x) {
        x.cells(1);
        int one = x.adding(0, 1);
        x.when(one, 0, 2, 2);
        x.ends(x.setting(0, 9), 5);
        x.weigh(0, 10);
        x.goal(1, 1000, 0);
        for (int how = BREADTH; how <= BEST; how++) {
            x.due(x.search(how, 9), 0);
            x.due(x.told(5), 4);
            x.due(x.node(2, 3), 5);
            x.due(x.node(2, 4), 0);
            x.due(x.node(2, 5), 0);
            x.dueQueue(0, 1, 3);
        }
    }

    @Sentence("Again and again, till there is none OPEN")
    static void termsTillNoneIsOpen(Run x) {
        x.cells(2);
        x.adding(0, 1);
        x.adding(1, 1);
        x.goal(1, 1, 0);
        for (int how = BREADTH; how <= BEST; how++) {
            x.due(x.search(how, 100), 0);
            x.due(x.told(5), 100);
            x.due(x.told(6), 100);
            x.due(x.node(99, 4), 1);
            x.dueThrow(100);
        }
    }

    @Sentence("in BREADTH the one with the least number")
    static void termsBreadthAsksNoScore(Run x) {
        x.cells(1);
        x.adding(0, 3);
        x.adding(0, 4);
        x.weigh(0, 100);
        x.goal(1, 9999, 0);
        x.due(x.search(BREADTH, 10), 0);
        x.dueQueue(0, 1, 2, 3, 4, 5, 6, 7, 8, 9);
    }

    @Sentence("by BEST the one with the greatest SCORE, of several the least number")
    static void termsBestOfSeveral(Run x) {
        x.cells(1);
        for (int v = 1; v <= 4; v++) {
            x.when(x.setting(0, v), 0, 0, 0);
        }
        x.goal(0, 0, 9);
        x.due(x.search(BEST, 10), 0);
        x.dueQueue(0, 1, 2, 3, 4);
        x.weigh(0, 1);
        x.due(x.search(BEST, 10), 0);
        x.dueQueue(0, 4, 3, 2, 1);
        x.weigh(0, -1);
        x.due(x.search(BEST, 10), 0);
        x.dueQueue(0, 1, 2, 3, 4);
    }

    @Sentence("by BEST the one with the greatest SCORE, of several the least number")
    static void termsBestComesBackToAnOldOne(Run x) {
        x.cells(2);
        x.when(x.setting(0, 5), 0, 0, 0);
        x.when(x.setting(0, 4), 0, 0, 0);
        x.when(x.setting(1, 9), 0, 0, 5);
        x.when(x.setting(1, 7), 0, 0, 4);
        x.weigh(0, 1);
        x.weigh(1, -1);
        x.goal(1, 9, 0);
        // 0 -> 1 (5, 0), 2 (4, 0); 1 -> 3 (5, 9), which is -4; 2 -> 4 (4, 7), which is -3
        x.due(x.search(BEST, 10), 0);
        x.dueQueue(0, 1, 2, 4, 3);
        x.due(x.node(3, 2), -4);
        x.due(x.node(4, 2), -3);
    }

    @Sentence("All its STEPS that CAN be done are tried, MOVES by numbers, then MACROS")
    static void termsMovesThenMacros(Run x) {
        x.cells(1);
        int one = x.adding(0, 1);
        x.macroOf(one, one);
        int three = x.adding(0, 3);
        x.macroOf(one, three);
        x.goal(0, 0, 9);
        x.due(x.search(BREADTH, 5), NONE);
        x.due(x.node(1, 1), one);
        x.due(x.node(2, 1), three);
        x.due(x.node(3, 1), 100);
        x.due(x.node(4, 1), 101);
        x.dueQueue(0, 1);
    }

    @Sentence("All its STEPS that CAN be done are tried")
    static void termsAllMovesAndMacrosThatThereCanBe(Run x) {
        x.cells(3);
        for (int move = 0; move < 23; move++) {
            x.when(x.setting(0, move % 10), 2, 0, 0);
            x.then(move, 0, 1, move / 10);
            x.then(move, 0, 2, 1);
        }
        int last = x.setting(1, 5);
        x.when(last, 2, 0, 1);
        x.then(last, 0, 2, 2);
        for (int macro = 0; macro < 8; macro++) {
            x.macroOf(macro, last);
        }
        x.goal(0, 0, 8);
        x.goal(0, 1, 5);
        // of the first world 23 moves and 8 macros, then the last move behind move 8
        x.due(x.search(BREADTH, 100), 1);
        x.due(x.told(5), 33);
        for (int node = 1; node <= 23; node++) {
            x.due(x.node(node, 1), node - 1);
        }
        for (int node = 24; node <= 31; node++) {
            x.due(x.node(node, 1), 100 + node - 24);
        }
        x.duePlay(8, last);
    }

    @Sentence("if it meets THE GOAL, or no NODE has a WORLD that is ALIKE")
    static void termsAlikeButMeetsTheGoal(Run x) {
        x.cell(0, true);
        int tick = x.adding(0, 1);
        x.goal(0, 0, 1);
        x.due(x.search(BREADTH, 2), 1);
        x.due(x.told(5), 2);
        x.duePlay(tick);
        x.clear();
        x.goal(0, 0, 2);
        x.due(x.search(BREADTH, 2), 0);
        x.due(x.told(5), 1);
    }

    @Sentence("if it meets THE GOAL, or no NODE has a WORLD that is ALIKE")
    static void termsTheSameWorldButMeetsTheGoal(Run x) {
        x.cells(1);
        x.move();
        int text = x.showing(8);
        x.goal(2, 8, 0);
        x.due(x.search(BREADTH, 2), 1);
        x.due(x.told(5), 2);
        x.due(x.meet(0, 1), 1);
        x.duePlay(text);
    }

    @Sentence("and the same ENDING or none")
    static void termsAlikeWithAnotherEnding(Run x) {
        x.cells(1);
        x.move();
        x.ending(1);
        x.ending(1);
        x.ending(2);
        x.goal(1, 1, 0);
        x.due(x.search(BREADTH, 3), 0);
        x.due(x.told(5), 3);
        x.due(x.node(1, 1), 1);
        x.due(x.node(1, 3), 1);
        x.due(x.node(2, 1), 3);
        x.due(x.node(2, 3), 2);
    }

    @Sentence("When a new NODE meets THE GOAL the SEARCH is over: FOUND.")
    static void termsOverAtOnce(Run x) {
        x.cells(1);
        x.showing(1);
        int one = x.adding(0, 1);
        int late = x.setting(0, 5);
        x.show(late, 2);
        x.goal(0, 0, 1);
        x.due(x.search(BREADTH, 9), 1);
        x.due(x.told(5), 2);
        x.due(x.seen(1), true);
        x.due(x.seen(2), false);
        x.due(x.node(1, 4), 0);
        x.dueQueue(0);
        x.duePlay(one);
    }

    @Sentence("It is SPENT when there would be more NODES than were allowed.")
    static void termsSpentByOne(Run x) {
        x.cells(1);
        x.adding(0, 1);
        x.goal(1, 1, 0);
        for (int how = BREADTH; how <= BEST; how++) {
            x.due(x.search(how, 9), NONE);
            x.due(x.told(5), 9);
            x.due(x.told(6), 9);
            x.due(x.search(how, 10), 0);
            x.due(x.told(5), 10);
            x.due(x.search(how, 11), 0);
            x.due(x.search(how, 1), NONE);
            x.due(x.told(5), 1);
            x.due(x.told(6), 1);
        }
    }

    @Sentence("It is SPENT when there would be more NODES than were allowed.")
    static void termsFullIsNotSpent(Run x) {
        x.cells(1);
        x.move();
        x.goal(1, 1, 0);
        x.due(x.search(BREADTH, 1), 0);
        x.due(x.search(BEST, 1), 0);
    }

    @Sentence("It is SPENT when there would be more NODES than were allowed.")
    static void termsTheGoalWouldBeOneTooMany(Run x) {
        x.cells(1);
        x.adding(0, 1);
        x.goal(0, 0, 4);
        x.due(x.search(BREADTH, 4), NONE);
        x.due(x.told(5), 4);
        x.dueNoPlay();
        x.due(x.search(BREADTH, 5), 1);
        x.due(x.length(), 4);
    }

    @Sentence("A NODE is DEAD when it was taken and none of its STEPS could be done.")
    static void termsDead(Run x) {
        x.cells(1);
        int one = x.adding(0, 1);
        x.when(one, 0, 2, 2);
        x.ends(x.setting(0, 9), 1);
        x.when(1, 0, 0, 1);
        x.goal(0, 0, 8);
        // 0 -> 1 (1) -> 2 (2), 3 (9, ended)
        x.due(x.search(BREADTH, 9), 0);
        x.due(x.told(7), 1);
        int[] dead = {0, 0, 1, 0};
        for (int node = 0; node < 4; node++) {
            x.due(x.node(node, 5), dead[node]);
        }
    }

    @Sentence("A NODE is DEAD when it was taken and none of its STEPS could be done.")
    static void termsNothingNewIsNotDead(Run x) {
        x.cells(1);
        x.move();
        x.goal(1, 1, 0);
        x.search(BREADTH, 9);
        x.due(x.node(0, 4), 1);
        x.due(x.node(0, 5), 0);
        x.due(x.told(7), 0);
    }

    @Sentence("A NODE is DEAD when it was taken and none of its STEPS could be done.")
    static void termsSpentOrFoundIsNotDead(Run x) {
        x.cells(1);
        int one = x.adding(0, 1);
        x.when(one, 0, 0, 0);
        x.goal(0, 0, 1);
        x.due(x.search(BREADTH, 1), NONE);
        x.due(x.node(0, 5), 0);
        x.due(x.search(BREADTH, 2), 1);
        x.due(x.node(0, 5), 0);
        // none of its steps could be done, but it was not taken
        x.due(x.node(1, 4), 0);
        x.due(x.node(1, 5), 0);
        x.due(x.told(7), 0);
    }

    @Sentence("SEEN are TEXTS of MOVES done in trying, also where no new NODE came of it")
    static void termsSeenWithoutANewNode(Run x) {
        x.cells(1);
        x.showing(0);
        x.showing(31);
        x.when(x.showing(15), 0, 0, 1);
        x.goal(1, 1, 0);
        x.due(x.search(BREADTH, 1), 0);
        x.due(x.told(5), 1);
        x.due(x.seen(0), true);
        x.due(x.seen(31), true);
        x.due(x.seen(15), false);
    }

    @Sentence("SEEN are TEXTS of MOVES done in trying, also where no new NODE came of it")
    static void termsSeenWhereItWasSpent(Run x) {
        x.cells(1);
        x.show(x.adding(0, 1), 6);
        x.goal(1, 1, 0);
        x.due(x.search(BREADTH, 1), NONE);
        x.due(x.told(5), 1);
        x.due(x.seen(6), true);
    }

    @Sentence("(all MOVES of a MACRO that CAN be done)")
    static void termsSeenInsideAMacro(Run x) {
        x.cells(1);
        int one = x.adding(0, 1);
        int middle = x.showing(10);
        x.when(middle, 0, 0, 3);
        int last = x.showing(11);
        x.when(last, 0, 0, 4);
        x.goal(1, 1, 0);
        x.due(x.search(BREADTH, 2), NONE);
        x.due(x.seen(10), false);
        x.macroOf(one, one, one, middle, one, last);
        // spent by the macro, when no node with 3 or 4 was there
        x.due(x.search(BREADTH, 2), NONE);
        x.due(x.seen(10), true);
        x.due(x.seen(11), true);
    }

    @Sentence("(all MOVES of a MACRO that CAN be done)")
    static void termsNotSeenInAMacroThatCanNot(Run x) {
        x.cell(0, true);
        int tick = x.adding(0, 1);
        int text = x.showing(20);
        x.when(text, 0, 0, 1);
        int never = x.showing(21);
        x.when(never, 0, 0, 0);
        x.when(never, 0, 0, 9);
        x.macroOf(tick, text, never);
        x.goal(1, 1, 0);
        x.due(x.search(BREADTH, 9), 0);
        x.due(x.seen(20), false);
        x.due(x.seen(21), false);
        x.macroOf(tick, text);
        x.due(x.search(BREADTH, 9), 0);
        x.due(x.told(5), 1);
        x.due(x.seen(20), true);
        x.due(x.seen(21), false);
    }
}
