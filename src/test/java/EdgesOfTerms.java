/** The edges that the document's terms name of cells, moves, macros, the goal and the present. */
final class EdgesOfTerms {
    private static final int NONE = Run.NONE;
    private static final int BREADTH = 0;

    private EdgesOfTerms() {
    }

    @Sentence("NONE is -1.")
    static void termsNoneIsMinusOne(Run x) {
        x.due(PlaySearch.NONE, -1);
        x.due(x.length(), -1);
        x.due(x.cell(-1, false), -1);
    }

    @Sentence("CELLS 0, 1, .. are at most 10; each has a value 0 .. 9")
    static void termsTenCellsOfTenValues(Run x) {
        for (int cell = 0; cell < 10; cell++) {
            x.cell(0, false);
            x.adding(cell, 1);
        }
        for (int cell = 0; cell < 10; cell++) {
            for (int value = 1; value <= 10; value++) {
                x.due(x.step(cell), 1);
                x.due(x.now(10 + cell), value % 10);
            }
            x.due(x.now(10 + (cell + 9) % 10), 0);
        }
        x.due(x.cell(0, false), NONE);
    }

    @Sentence("a WEIGHT (0 at first)")
    static void termsWeightAtFirst(Run x) {
        x.cell(9, false);
        x.cell(9, true);
        x.due(x.now(0), 0);
        x.weigh(1, 1);
        x.due(x.now(0), 9);
    }

    @Sentence("Its SCORE is the sum of the values times the WEIGHTS.")
    static void termsGreatestAndLeastScore(Run x) {
        x.due(x.now(0), 0);
        for (int cell = 0; cell < 10; cell++) {
            x.cell(9, cell % 2 == 0);
            x.weigh(cell, 100);
        }
        x.due(x.now(0), 9000);
        x.goal(1, 9000, 0);
        x.due(x.now(3), 1);
        x.search(BREADTH, 1);
        x.due(x.node(0, 2), 9000);
        for (int cell = 0; cell < 10; cell++) {
            x.weigh(cell, -100);
        }
        x.due(x.now(0), -9000);
        x.due(x.now(3), 0);
        x.search(BREADTH, 1);
        x.due(x.node(0, 2), -9000);
    }

    @Sentence("Two WORLDS are ALIKE when all CELLS but CLOCKS have the same values.")
    static void termsAllAreClocks(Run x) {
        x.cell(0, true);
        x.cell(0, true);
        x.adding(0, 1);
        x.adding(1, 1);
        x.goal(1, 1, 0);
        x.due(x.search(BREADTH, 1), 0);
        x.due(x.told(5), 1);
    }

    @Sentence("Two WORLDS are ALIKE when all CELLS but CLOCKS have the same values.")
    static void termsNoCellsAtAll(Run x) {
        x.move();
        x.goal(1, 1, 0);
        x.due(x.search(BREADTH, 1), 0);
        x.due(x.told(5), 1);
    }

    @Sentence("Two WORLDS are ALIKE when all CELLS but CLOCKS have the same values.")
    static void termsEachCellCountsButTheClock(Run x) {
        x.goal(1, 1, 0);
        for (int cell = 0; cell < 10; cell++) {
            x.cell(0, cell == 4);
            x.ends(x.setting(cell, 9), 1);
        }
        x.due(x.search(BREADTH, 100), 0);
        // behind each move one cell is 9; the clock's move is alike to none either, as it has ended
        x.due(x.told(5), 11);
        int clock = x.setting(4, 5);
        x.ends(clock, 1);
        x.due(x.search(BREADTH, 100), 0);
        x.due(x.told(5), 11);
        int other = x.setting(9, 5);
        x.ends(other, 1);
        x.due(x.search(BREADTH, 100), 0);
        x.due(x.told(5), 12);
        x.due(x.node(11, 1), other);
    }

    @Sentence("MOVES 0, 1, .. are at most 24.")
    static void termsTwentyFourMoves(Run x) {
        x.cells(2);
        for (int move = 0; move < 24; move++) {
            x.setting(0, move % 10);
            x.then(move, 0, 1, move / 10);
        }
        x.due(x.move(), NONE);
        for (int move = 0; move < 24; move++) {
            x.due(x.step(move), 1);
            x.due(x.now(10), move % 10);
            x.due(x.now(11), move / 10);
        }
    }

    @Sentence("A MOVE has up to 6 CONDITIONS")
    static void termsEachOfSixConditionsCounts(Run x) {
        for (int cell = 0; cell < 6; cell++) {
            x.cell(1, false);
        }
        for (int move = 0; move < 6; move++) {
            x.move();
            for (int cell = 0; cell < 6; cell++) {
                x.when(move, cell, 0, cell == move ? 2 : 1);
            }
            x.due(x.step(move), 0);
        }
        int last = x.move();
        for (int cell = 0; cell < 6; cell++) {
            x.due(x.when(last, cell, 0, 1), true);
        }
        x.due(x.step(last), 1);
    }

    @Sentence("A MOVE has up to 6 CONDITIONS")
    static void termsConditionsOfTheLastMove(Run x) {
        x.cells(1);
        for (int move = 0; move < 24; move++) {
            x.move();
            for (int i = 0; i < 5; i++) {
                x.when(move, 0, 0, 0);
            }
            x.due(x.when(move, 0, 0, move < 23 ? 0 : 1), true);
        }
        x.due(x.now(2), 23);
        x.due(x.step(23), 0);
        x.due(x.when(23, 0, 0, 0), false);
    }

    /** Each value against each v: moves 0 to 9 have the condition, 10 to 19 set the cell. */
    private static void relation(Run x, int relation) {
        x.cells(1);
        for (int v = 0; v <= 9; v++) {
            x.move();
            x.when(v, 0, relation, v);
        }
        for (int value = 0; value <= 9; value++) {
            x.setting(0, value);
        }
        for (int value = 0; value <= 9; value++) {
            x.step(10 + value);
            for (int v = 0; v <= 9; v++) {
                boolean holds = relation == 0 ? value == v : relation == 1 ? value != v
                        : relation == 2 ? value < v : value > v;
                x.due(x.step(v), holds ? 1 : 0);
            }
        }
    }

    @Sentence("(a CELL's value is v: relation 0; is not v: 1; is below v: 2; is above v: 3)")
    static void termsIs(Run x) {
        relation(x, 0);
    }

    @Sentence("(a CELL's value is v: relation 0; is not v: 1; is below v: 2; is above v: 3)")
    static void termsIsNot(Run x) {
        relation(x, 1);
    }

    @Sentence("(a CELL's value is v: relation 0; is not v: 1; is below v: 2; is above v: 3)")
    static void termsIsBelow(Run x) {
        relation(x, 2);
    }

    @Sentence("(a CELL's value is v: relation 0; is not v: 1; is below v: 2; is above v: 3)")
    static void termsIsAbove(Run x) {
        relation(x, 3);
    }

    @Sentence("up to 6 EFFECTS")
    static void termsSixEffects(Run x) {
        x.cells(6);
        for (int move = 0; move < 24; move++) {
            x.move();
        }
        for (int cell = 0; cell < 6; cell++) {
            x.due(x.then(23, 0, cell, 9 - cell), true);
        }
        x.due(x.then(23, 0, 0, 0), false);
        x.due(x.step(22), 1);
        x.due(x.now(10), 0);
        x.due(x.step(23), 1);
        for (int cell = 0; cell < 6; cell++) {
            x.due(x.now(10 + cell), 9 - cell);
        }
    }

    @Sentence("perhaps a TEXT (0 .. 31)")
    static void termsAllTexts(Run x) {
        x.move();
        x.goal(1, 1, 0);
        for (int text = 0; text <= 31; text++) {
            x.due(x.show(0, text), true);
            x.search(BREADTH, 1);
            x.due(x.seen(text), true);
            x.due(x.seen((text + 1) % 32), false);
            x.due(x.seen((text + 31) % 32), false);
        }
    }

    @Sentence("perhaps an ENDING (1 .. 9)")
    static void termsAllEndings(Run x) {
        x.goal(1, 1, 0);
        for (int ending = 1; ending <= 9; ending++) {
            x.ending(ending);
        }
        x.due(x.search(BREADTH, 10), 0);
        x.due(x.told(5), 10);
        for (int ending = 1; ending <= 9; ending++) {
            x.due(x.node(ending, 3), ending);
            x.begin();
            x.due(x.step(ending - 1), 1);
            x.due(x.now(1), ending);
        }
    }

    @Sentence("It CAN be done in a WORLD when all its CONDITIONS hold and the story has not ended.")
    static void termsNoConditionsNoCells(Run x) {
        x.move();
        int end = x.ending(1);
        x.due(x.now(2), 2);
        x.due(x.step(0), 1);
        x.due(x.step(end), 1);
        x.due(x.now(2), 0);
        x.due(x.step(0), 0);
        x.due(x.step(end), 0);
    }

    @Sentence("Then its EFFECTS are done, in order, each with what those before it left")
    static void termsEffectsInOrder(Run x) {
        x.cell(1, false);
        x.cell(2, false);
        int swap = x.move();
        x.then(swap, 2, 0, 1);
        x.then(swap, 2, 1, 0);
        x.then(swap, 1, 1, 5);
        x.then(swap, 1, 1, 5);
        x.then(swap, 1, 1, 5);
        x.then(swap, 2, 0, 1);
        x.due(x.step(swap), 1);
        x.due(x.now(10), 7);
        x.due(x.now(11), 7);
    }

    @Sentence("0 the CELL becomes v")
    static void termsBecomes(Run x) {
        x.cell(5, false);
        x.cell(5, false);
        for (int v = 0; v <= 9; v++) {
            x.setting(0, v);
        }
        for (int v = 9; v >= 0; v--) {
            x.due(x.step(v), 1);
            x.due(x.now(10), v);
        }
        x.due(x.now(11), 5);
    }

    @Sentence("1 it becomes its value and v, modulo 10 (v -9 .. 9; the rest is 0 .. 9)")
    static void termsEveryValueAndEveryAddend(Run x) {
        x.cells(2);
        for (int v = -9; v <= 9; v++) {
            x.then(x.moveThat(2, 0, 1), 1, 0, v);
        }
        int up = x.adding(1, 1);
        for (int value = 0; value <= 9; value++) {
            for (int v = -9; v <= 9; v++) {
                x.step(v + 9);
                x.due(x.now(10), (value + v + 10) % 10);
            }
            x.step(up);
        }
    }

    @Sentence("2 it becomes the value of CELL v")
    static void termsCopies(Run x) {
        for (int cell = 0; cell < 10; cell++) {
            x.cell(9 - cell, cell == 9);
        }
        int first = x.moveThat(2, 9, 0);
        int last = x.moveThat(2, 0, 9);
        int itself = x.moveThat(2, 5, 5);
        x.due(x.step(last), 1);
        x.due(x.now(10), 0);
        x.begin();
        x.due(x.step(first), 1);
        x.due(x.now(19), 9);
        x.due(x.now(10), 9);
        x.due(x.step(itself), 1);
        x.due(x.now(15), 4);
    }

    /** Cells of these values, and the tape read by a move of this number, modulo 10, 9, .. 5. */
    private static void chance(Run x, int[] world, int number, long chance) {
        for (int cell = 0; cell < world.length; cell++) {
            x.cell(world[cell], cell % 3 == 1);
        }
        for (int move = 0; move < number; move++) {
            x.move();
        }
        int draw = x.move();
        x.due(draw, number);
        int most = Math.min(6, world.length);
        for (int cell = 0; cell < most; cell++) {
            x.then(draw, 3, cell, 10 - cell);
        }
        x.due(x.step(draw), 1);
        for (int cell = 0; cell < most; cell++) {
            x.due(x.now(10 + cell), chance % (10 - cell));
        }
    }

    @Sentence("3 it becomes CHANCE modulo v (1 .. 10)")
    static void termsModuloOneToTen(Run x) {
        x.cells(10);
        x.moveThat(3, 0, 1);
        x.moveThat(3, 0, 2);
        for (int v = 3; v <= 10; v++) {
            x.moveThat(3, 0, v);
        }
        // each cell is 0: h is 1, 132, 17293, .. modulo 2147483647
        long h = 0;
        for (int cell = 0; cell < 10; cell++) {
            h = (131 * h + 1) % 2147483647L;
        }
        for (int v = 1; v <= 10; v++) {
            x.begin();
            x.due(x.step(v - 1), 1);
            x.due(x.now(10), (131 * h + v) % 2147483647L % v);
        }
    }

    @Sentence("CHANCE of a MOVE in a WORLD (as it is ahead of its EFFECTS): h is 0")
    static void termsChanceOfOneCell(Run x) {
        // (131 * 1 + 1) is 132
        chance(x, new int[] {0}, 0, 132);
    }

    @Sentence("for each CELL h becomes (131 h + its value + 1) modulo 2147483647")
    static void termsACellOfZeroCounts(Run x) {
        // 131 * 132 + 24 is 17316
        chance(x, new int[] {0, 0}, 23, 17316);
    }

    @Sentence("for each CELL h becomes (131 h + its value + 1) modulo 2147483647")
    static void termsChanceWrapsToNothing(Run x) {
        // of these ten cells 131 h + 1 is a multiple of 2147483647
        chance(x, new int[] {9, 2, 3, 5, 5, 3, 2, 8, 7, 2}, 0, 0);
    }

    @Sentence("then (131 h + the MOVE's number + 1) modulo 2147483647")
    static void termsChanceWrapsToNothingForTheLastMove(Run x) {
        chance(x, new int[] {8, 6, 1, 5, 9, 2, 8, 2, 5, 8}, 23, 0);
    }

    @Sentence("then (131 h + the MOVE's number + 1) modulo 2147483647")
    static void termsGreatestChance(Run x) {
        chance(x, new int[] {5, 6, 3, 9, 3, 5, 1, 7, 8, 3}, 0, 2147483646);
    }

    @Sentence("then (131 h + the MOVE's number + 1) modulo 2147483647")
    static void termsGreatestChanceOfTheLastMove(Run x) {
        chance(x, new int[] {0, 3, 2, 3, 9, 1, 3, 9, 3, 5}, 23, 2147483646);
    }

    @Sentence("for each CELL h becomes (131 h + its value + 1) modulo 2147483647")
    static void termsCellsWrapToNothing(Run x) {
        // h is 0 behind the last cell, so that the move's number alone is left
        chance(x, new int[] {2, 4, 1, 6, 8, 0, 0, 7, 3, 2}, 23, 24);
    }

    @Sentence("for each CELL h becomes (131 h + its value + 1) modulo 2147483647")
    static void termsCellsAsGreatAsCanBe(Run x) {
        // h is 2147483646 behind the last cell: 131 h needs more than an int
        chance(x, new int[] {2, 4, 1, 6, 8, 0, 0, 7, 3, 1}, 0, 2147483517);
    }

    @Sentence("(as it is ahead of its EFFECTS)")
    static void termsChanceAheadOfEffects(Run x) {
        x.cells(1);
        int draw = x.move();
        x.then(draw, 0, 0, 9);
        x.then(draw, 3, 0, 10);
        x.then(draw, 3, 0, 10);
        x.due(x.step(draw), 1);
        // 132 modulo 10, of the cell as it was: 0
        x.due(x.now(10), 2);
        x.due(x.step(draw), 1);
        // 131 * 3 + 1 is 394
        x.due(x.now(10), 4);
    }

    @Sentence("With an ENDING the story has ended by that.")
    static void termsEndedBehindItsEffects(Run x) {
        x.cells(1);
        int end = x.adding(0, 1);
        x.ends(end, 1);
        x.then(end, 1, 0, 1);
        int one = x.adding(0, 1);
        x.due(x.step(one), 1);
        x.due(x.now(1), 0);
        x.due(x.step(end), 1);
        x.due(x.now(10), 3);
        x.due(x.now(1), 1);
        x.due(x.step(end), 0);
        x.due(x.now(10), 3);
    }

    @Sentence("MACROS 0, 1, .. are at most 8: rows of 2 .. 6 MOVES.")
    static void termsEightMacrosOfTwoToSix(Run x) {
        x.cells(1);
        int one = x.adding(0, 1);
        int[] sizes = {2, 3, 4, 5, 6, 2, 6, 6};
        for (int macro = 0; macro < 8; macro++) {
            for (int i = 0; i < sizes[macro]; i++) {
                x.of(one);
            }
            x.due(x.macro(), macro);
        }
        x.due(x.macroOf(one, one), NONE);
        for (int macro = 0; macro < 8; macro++) {
            x.begin();
            x.due(x.step(100 + macro), 1);
            x.due(x.now(10), sizes[macro]);
        }
    }

    @Sentence("A STEP is a MOVE (numbers from 0), or a MACRO (100 and its number)")
    static void termsNumbersOfSteps(Run x) {
        x.move();
        x.macroOf(0, 0);
        for (int step = -2; step <= 110; step++) {
            x.due(x.step(step), step == 0 || step == 100 ? 1 : NONE);
        }
    }

    @Sentence("it CAN be done when all its MOVES can, one behind the other")
    static void termsOneBehindTheOther(Run x) {
        x.cells(1);
        int first = x.adding(0, 1);
        x.when(first, 0, 0, 0);
        int second = x.adding(0, 1);
        x.when(second, 0, 0, 1);
        x.macroOf(first, second);
        x.macroOf(second, first);
        x.macroOf(first, first);
        x.macroOf(first, second, second);
        x.due(x.step(second), 0);
        x.due(x.step(101), 0);
        x.due(x.step(102), 0);
        x.due(x.step(103), 0);
        x.due(x.now(10), 0);
        x.due(x.now(2), 2);
        x.due(x.step(100), 1);
        x.due(x.now(10), 2);
    }

    @Sentence("it CAN be done when all its MOVES can, one behind the other")
    static void termsAnEndingInsideAMacro(Run x) {
        int plain = x.move();
        int end = x.ending(6);
        x.macroOf(end, plain);
        x.macroOf(end, end);
        x.macroOf(plain, end);
        x.due(x.now(2), 3);
        x.due(x.step(100), 0);
        x.due(x.step(101), 0);
        x.due(x.now(1), 0);
        x.due(x.step(102), 1);
        x.due(x.now(1), 6);
    }

    @Sentence("THE GOAL: up to 4 of these, all to be so behind a STEP")
    static void termsAllFourAreToBeSo(Run x) {
        x.cells(4);
        for (int cell = 0; cell < 4; cell++) {
            x.when(x.adding(cell, 1), cell, 0, 0);
            x.goal(0, cell, 1);
        }
        x.due(x.goal(0, 0, 0), NONE);
        x.due(x.search(BREADTH, 100), 1);
        x.due(x.length(), 4);
        x.due(x.told(5), 16);
        for (int cell = 0; cell < 4; cell++) {
            x.due(x.node(15, 10 + cell), 1);
        }
    }

    @Sentence("(of a MACRO behind its last MOVE)")
    static void termsHalfWayThroughAMacro(Run x) {
        x.cells(1);
        int one = x.adding(0, 1);
        int five = x.setting(0, 5);
        x.when(five, 0, 0, 1);
        x.when(one, 0, 0, 0);
        int end = x.ending(3);
        x.when(end, 0, 0, 5);
        x.macroOf(one, five);
        x.macroOf(one, five, end);
        x.goal(0, 0, 1);
        x.goal(3, 3, 0);
        x.due(x.search(BREADTH, 100), 0);
        x.clear();
        x.goal(0, 0, 5);
        x.goal(3, 3, 0);
        x.due(x.search(BREADTH, 100), 1);
        x.duePlay(one, five, end);
        x.due(x.node(x.told(5) - 1, 1), 101);
    }

    @Sentence("0 CELL a has value b")
    static void termsACellHasAValue(Run x) {
        for (int cell = 0; cell < 10; cell++) {
            x.cell(cell, cell == 9);
        }
        x.move();
        for (int cell = 0; cell < 10; cell += 9) {
            for (int value = 0; value <= 9; value++) {
                x.goal(0, cell, value);
                x.due(x.now(3), cell == value ? 1 : 0);
                x.due(x.search(BREADTH, 2), cell == value ? 1 : 0);
                x.clear();
            }
        }
    }

    @Sentence("1 the SCORE is a or more")
    static void termsScoreReached(Run x) {
        x.cell(9, false);
        x.weigh(0, -100);
        x.move();
        int[] scores = {Integer.MIN_VALUE, -901, -900, -899, 0, Integer.MAX_VALUE};
        for (int score : scores) {
            x.clear();
            x.goal(1, score, 0);
            x.due(x.now(3), score <= -900 ? 1 : 0);
            x.due(x.search(BREADTH, 2), score <= -900 ? 1 : 0);
        }
    }

    @Sentence("2 the last MOVE has TEXT a")
    static void termsTextOfTheLastMove(Run x) {
        int silent = x.move();
        int text = x.showing(0);
        int other = x.showing(31);
        x.macroOf(text, silent);
        x.macroOf(text, other);
        x.macroOf(silent, text);
        x.goal(2, 0, 0);
        x.due(x.search(BREADTH, 2), 1);
        x.duePlay(text);
        x.show(text, NONE);
        x.due(x.search(BREADTH, 2), 0);
        x.show(text, 7);
        x.clear();
        x.goal(2, 31, 0);
        x.show(silent, 31);
        x.due(x.search(BREADTH, 2), 1);
        x.duePlay(silent);
    }

    @Sentence("2 the last MOVE has TEXT a")
    static void termsTextInsideAMacro(Run x) {
        x.cells(1);
        int ready = x.setting(0, 1);
        int text = x.showing(4);
        x.when(text, 0, 0, 1);
        int back = x.setting(0, 0);
        x.macroOf(ready, text, back);
        x.macroOf(ready, text);
        x.goal(2, 4, 0);
        x.due(x.search(BREADTH, 9), 1);
        x.duePlay(ready, text);
        x.due(x.node(x.told(5) - 1, 1), 101);
    }

    @Sentence("3 the story has ended by ENDING a")
    static void termsEndedByThatEnding(Run x) {
        x.ending(1);
        x.ending(9);
        x.goal(3, 5, 0);
        x.due(x.search(BREADTH, 10), 0);
        x.clear();
        x.goal(3, 9, 0);
        x.due(x.search(BREADTH, 10), 1);
        x.duePlay(1);
        x.due(x.node(2, 3), 9);
        x.clear();
        x.goal(3, 1, 0);
        x.due(x.search(BREADTH, 10), 1);
        x.duePlay(0);
    }

    @Sentence("Without any there is no GOAL.")
    static void termsNoGoal(Run x) {
        x.cells(1);
        x.adding(0, 1);
        x.due(x.now(3), 0);
        x.due(x.search(BREADTH, 10), -2);
        x.goal(0, 0, 1);
        x.due(x.search(BREADTH, 10), 1);
        x.due(x.replays(), 1);
        x.clear();
        x.due(x.now(3), 0);
        x.due(x.search(BREADTH, 10), -2);
        x.due(x.replays(), NONE);
    }

    @Sentence("NOW is a WORLD and whether the story has ended, at first, and behind begin()")
    static void termsNowAtFirst(Run x) {
        x.cell(7, false);
        x.cell(2, true);
        x.due(x.now(10), 7);
        x.due(x.now(11), 2);
        x.due(x.now(1), 0);
        x.setting(0, 1);
        x.ends(0, 3);
        x.then(0, 0, 1, 1);
        x.step(0);
        x.due(x.now(10), 1);
        x.due(x.now(11), 1);
        x.due(x.now(1), 3);
        x.begin();
        x.due(x.now(10), 7);
        x.due(x.now(11), 2);
        x.due(x.now(1), 0);
    }

    @Sentence("(with the CELLS of then; a new CELL has its first value there)")
    static void termsANewCellNow(Run x) {
        x.cell(1, false);
        int one = x.adding(0, 1);
        x.step(one);
        for (int cell = 1; cell < 10; cell++) {
            x.cell(10 - cell, cell % 2 == 0);
            x.due(x.now(10 + cell), 10 - cell);
            x.due(x.now(10), 2);
        }
        x.due(x.now(20), NONE);
        x.begin();
        x.due(x.now(10), 1);
        x.due(x.now(19), 1);
    }

    @Sentence("(with the CELLS of then; a new CELL has its first value there)")
    static void termsANewCellWhenEnded(Run x) {
        x.cell(1, false);
        x.ends(x.adding(0, 1), 8);
        x.step(0);
        x.cell(6, false);
        x.due(x.now(11), 6);
        x.due(x.now(10), 2);
        x.due(x.now(1), 8);
        x.weigh(1, 10);
        x.due(x.now(0), 60);
    }
}
