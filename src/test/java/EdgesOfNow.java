/** The edges of promises 23 to 26 (the present, all counts) and of what is not promised. */
final class EdgesOfNow {
    private static final int NONE = Run.NONE;

    private EdgesOfNow() {
    }

    @Sentence("NOW is the first WORLD, the story has not ended.")
    static void promise23BeginAgain(Run x) {
        x.cell(9, false);
        x.cell(0, true);
        x.adding(0, 1);
        x.then(0, 1, 1, -1);
        x.ends(0, 9);
        x.begin();
        x.due(x.now(10), 9);
        x.step(0);
        x.due(x.now(10), 0);
        x.due(x.now(11), 9);
        x.due(x.now(1), 9);
        x.begin();
        x.due(x.now(10), 9);
        x.due(x.now(11), 0);
        x.due(x.now(1), 0);
        x.due(x.step(0), 1);
        x.begin();
        x.begin();
        x.due(x.now(10), 9);
    }

    @Sentence("NOW is the first WORLD, the story has not ended.")
    static void promise23BeginWithoutAnything(Run x) {
        x.begin();
        x.due(x.now(0), 0);
        x.due(x.now(1), 0);
        x.due(x.now(10), NONE);
        x.ending(1);
        x.step(0);
        x.begin();
        x.due(x.now(1), 0);
    }

    @Sentence("NOW is the first WORLD, the story has not ended.")
    static void promise23BeginChangesNothingElse(Run x) {
        x.cells(1);
        x.adding(0, 1);
        x.of(0);
        x.goal(0, 0, 2);
        x.search(0, 10);
        x.step(0);
        x.begin();
        int[] due = {1, 1, 0, 1, 1, 3, 2, 0};
        for (int what = 0; what < due.length; what++) {
            x.due(x.told(what), due[what]);
        }
        x.due(x.length(), 2);
    }

    @Sentence("1 when it CAN be done (then it is), 0 when not")
    static void promise24CanOrNot(Run x) {
        x.cell(8, false);
        int one = x.adding(0, 1);
        x.when(one, 0, 3, 7);
        x.due(x.step(one), 1);
        x.due(x.now(10), 9);
        x.due(x.step(one), 1);
        x.due(x.now(10), 0);
        x.due(x.step(one), 0);
        x.due(x.now(10), 0);
    }

    @Sentence("1 when it CAN be done (then it is), 0 when not")
    static void promise24AMacroIsDoneWhollyOrNot(Run x) {
        x.cells(2);
        int one = x.adding(0, 1);
        int two = x.adding(1, 1);
        x.when(two, 0, 0, 5);
        for (int size = 2; size <= 6; size++) {
            for (int i = 1; i < size; i++) {
                x.of(one);
            }
            x.of(two);
            x.macro();
        }
        // the macro of six is five times one, then two
        for (int macro = 0; macro < 4; macro++) {
            x.due(x.step(100 + macro), 0);
            x.due(x.now(10), 0);
            x.due(x.now(11), 0);
        }
        x.due(x.step(104), 1);
        x.due(x.now(10), 5);
        x.due(x.now(11), 1);
        x.due(x.step(104), 0);
        x.due(x.now(10), 5);
    }

    @Sentence("1 when it CAN be done (then it is), 0 when not")
    static void promise24NothingBehindAnEnding(Run x) {
        x.cells(1);
        int one = x.adding(0, 1);
        x.ends(one, 1);
        int other = x.move();
        x.macroOf(other, other);
        x.due(x.step(one), 1);
        x.due(x.now(10), 1);
        x.due(x.step(one), 0);
        x.due(x.step(other), 0);
        x.due(x.step(100), 0);
        x.due(x.now(10), 1);
        x.due(x.step(101), NONE);
        x.due(x.step(2), NONE);
    }

    @Sentence("NONE when there is no such STEP")
    static void promise24NoSuchStep(Run x) {
        x.due(x.step(0), NONE);
        x.due(x.step(100), NONE);
        x.cells(1);
        x.adding(0, 1);
        x.macroOf(0, 0);
        for (int none : new int[] {-1, 1, 23, 24, 99, 101, 107, 108, 200}) {
            x.due(x.step(none), NONE);
        }
        for (int far : Run.FAR) {
            x.due(x.step(far), NONE);
        }
        x.due(x.now(10), 0);
    }

    @Sentence("NONE when there is no such STEP")
    static void promise24TheDraftIsNoStep(Run x) {
        x.move();
        x.of(0);
        x.of(0);
        x.due(x.step(100), NONE);
        x.macro();
        x.due(x.step(100), 1);
    }

    @Sentence("its SCORE (what = 0), ENDING, 0 without (1)")
    static void promise25ScoreAndEnding(Run x) {
        x.due(x.now(0), 0);
        x.due(x.now(1), 0);
        x.cell(1, false);
        x.weigh(0, -1);
        x.due(x.now(0), -1);
        x.ending(9);
        x.step(0);
        x.due(x.now(0), -1);
        x.due(x.now(1), 9);
        x.begin();
        x.due(x.now(1), 0);
    }

    @Sentence("how many STEPS CAN be done (2)")
    static void promise25HowManySteps(Run x) {
        x.due(x.now(2), 0);
        x.cells(1);
        int one = x.adding(0, 1);
        x.when(one, 0, 2, 3);
        int end = x.ending(1);
        x.when(end, 0, 0, 2);
        x.macroOf(one, one);
        x.macroOf(one, one, end);
        x.macroOf(one, one, one, one);
        int[] due = {3, 2, 2, 0};
        for (int value = 0; value <= 3; value++) {
            x.due(x.now(2), due[value]);
            x.due(x.now(10), value);
            x.step(one);
        }
        x.begin();
        x.step(101);
        x.due(x.now(2), 0);
    }

    @Sentence("how many STEPS CAN be done (2)")
    static void promise25AsManyAsThereCanBe(Run x) {
        for (int move = 0; move < 24; move++) {
            x.move();
        }
        for (int macro = 0; macro < 8; macro++) {
            x.macroOf(macro, 23);
        }
        x.due(x.now(2), 32);
        x.ends(23, 1);
        x.due(x.now(2), 32);
        x.ends(0, 1);
        x.due(x.now(2), 31);
        x.step(23);
        x.due(x.now(2), 0);
    }

    @Sentence("whether THE GOAL is met but for TEXTS")
    static void promise25GoalButForTexts(Run x) {
        x.cell(2, false);
        x.weigh(0, 3);
        int end = x.ending(4);
        x.goal(2, 30, 0);
        x.due(x.now(3), 1);
        x.goal(0, 0, 2);
        x.due(x.now(3), 1);
        x.goal(1, 6, 0);
        x.due(x.now(3), 1);
        x.goal(3, 4, 0);
        x.due(x.now(3), 0);
        x.step(end);
        x.due(x.now(3), 1);
        x.weigh(0, 2);
        x.due(x.now(3), 0);
    }

    @Sentence("0 without GOAL (3)")
    static void promise25WithoutGoal(Run x) {
        x.due(x.now(3), 0);
        x.goal(1, 0, 0);
        x.due(x.now(3), 1);
        x.clear();
        x.due(x.now(3), 0);
    }

    @Sentence("the value of CELL k (10 + k)")
    static void promise25Values(Run x) {
        for (int cell = 0; cell < 10; cell++) {
            x.due(x.now(10 + cell), NONE);
            x.cell(9 - cell, false);
            x.due(x.now(10 + cell), 9 - cell);
        }
        x.due(x.now(20), NONE);
    }

    @Sentence("NONE: another what.")
    static void promise25AnotherWhat(Run x) {
        x.cell(5, false);
        for (int what : new int[] {-1, 4, 5, 6, 7, 8, 9, 11, 19, 20, 100}) {
            x.due(x.now(what), NONE);
        }
        for (int far : Run.FAR) {
            x.due(x.now(far), NONE);
        }
    }

    @Sentence("CELLS (what = 0), MOVES (1), MACROS (2), of THE GOAL (3), MOVES in the draft (4)")
    static void promise26WhatWasMade(Run x) {
        int[] most = {10, 24, 8, 4, 6};
        for (int i = 0; i < 10; i++) {
            x.cell(0, false);
            x.due(x.told(0), i + 1);
        }
        for (int i = 0; i < 24; i++) {
            x.move();
            x.due(x.told(1), i + 1);
        }
        for (int i = 0; i < 8; i++) {
            x.macroOf(i, i);
            x.due(x.told(2), i + 1);
        }
        for (int i = 0; i < 4; i++) {
            x.goal(0, 0, 0);
            x.due(x.told(3), i + 1);
        }
        for (int i = 0; i < 6; i++) {
            x.of(0);
            x.due(x.told(4), i + 1);
        }
        x.cell(0, false);
        x.move();
        x.macro();
        x.goal(0, 0, 0);
        x.of(0);
        for (int what = 0; what <= 4; what++) {
            x.due(x.told(what), most[what]);
        }
    }

    @Sentence("NODES of the latest SEARCH (5), of these taken (6), DEAD (7)")
    static void promise26OfTheLatestSearch(Run x) {
        x.cells(1);
        x.when(x.adding(0, 1), 0, 2, 4);
        x.goal(0, 0, 9);
        int[][] due = {{1, 1, 0}, {2, 2, 0}, {5, 5, 1}};
        int[] nodes = {1, 2, 1500};
        for (int i = 0; i < nodes.length; i++) {
            x.search(0, nodes[i]);
            for (int what = 5; what <= 7; what++) {
                x.due(x.told(what), due[i][what - 5]);
            }
        }
        x.clear();
        x.goal(0, 0, 1);
        x.search(0, 10);
        x.due(x.told(5), 2);
        x.due(x.told(6), 1);
        x.due(x.told(7), 0);
    }

    @Sentence("NONE: another what.")
    static void promise26AnotherWhat(Run x) {
        x.cells(1);
        for (int what : new int[] {-1, 8, 9, 10, 11}) {
            x.due(x.told(what), NONE);
        }
        for (int far : Run.FAR) {
            x.due(x.told(far), NONE);
        }
    }

    @Sentence("nothing about an object after its 512th call")
    static void notPromisedIsLaterThanTheLastStep(Run x) {
        x.cells(1);
        x.adding(0, 1);
        for (int call = 4; call <= 511; call++) {
            x.due(x.step(0), 1);
        }
        // the 512th call, behind 508 steps
        x.due(x.now(10), 8);
    }

    @Sentence("nothing about an object after its 512th call")
    static void notPromisedIsLaterThanTheLastSearch(Run x) {
        x.cells(4);
        for (int cell = 0; cell < 4; cell++) {
            x.adding(cell, 1);
        }
        x.goal(1, 1, 0);
        for (int call = 14; call <= 510; call++) {
            x.due(x.search(call % 2, call % 7 + 1), NONE);
        }
        x.due(x.search(1, 1500), NONE);
        x.due(x.told(5), 1500);
    }
}
