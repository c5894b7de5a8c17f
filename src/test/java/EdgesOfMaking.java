/** The edges of promises 1 to 12: what a story is made of. */
final class EdgesOfMaking {
    private static final int NONE = Run.NONE;

    private EdgesOfMaking() {
    }

    @Sentence("Nothing at all.")
    static void promise1NothingAtAll(Run x) {
        for (int what = 0; what <= 7; what++) {
            x.due(x.told(what), 0);
        }
        x.due(x.now(0), 0);
        x.due(x.now(1), 0);
        x.due(x.now(2), 0);
        x.due(x.now(3), 0);
        x.due(x.now(10), NONE);
        x.dueNoPlay();
        x.dueThrow(0);
        x.due(x.node(0, 0), NONE);
        x.due(x.node(0, 2), NONE);
        x.due(x.meet(0, 0), NONE);
        x.due(x.never(0), NONE);
        for (int text = 0; text <= 31; text++) {
            x.due(x.seen(text), false);
        }
    }

    @Sentence("Nothing at all.")
    static void promise1NoNumbersOfAnything(Run x) {
        x.due(x.weigh(0, 0), false);
        x.due(x.when(0, 0, 0, 0), false);
        x.due(x.then(0, 0, 0, 0), false);
        x.due(x.show(0, 0), false);
        x.due(x.ends(0, 0), false);
        x.due(x.of(0), NONE);
        x.due(x.macro(), NONE);
        x.due(x.goal(0, 0, 0), NONE);
        x.due(x.clear(), 0);
        x.due(x.step(0), NONE);
        x.due(x.step(100), NONE);
    }

    @Sentence("Nothing at all.")
    static void promise1ASearchOfNothing(Run x) {
        x.due(x.goal(1, 0, 0), 1);
        x.due(x.search(0, 1), 0);
        x.due(x.told(5), 1);
        x.due(x.node(0, 4), 1);
        x.due(x.node(0, 5), 1);
        x.due(x.node(0, 10), NONE);
        x.due(x.meet(0, 0), 1);
        x.dueQueue(0);
        x.begin();
        x.due(x.now(0), 0);
        x.due(x.now(3), 1);
    }

    @Sentence("A CELL: its number")
    static void promise2NumbersFromZero(Run x) {
        for (int cell = 0; cell < 10; cell++) {
            x.due(x.cell(9 - cell, cell % 2 == 0), cell);
            x.due(x.now(10 + cell), 9 - cell);
        }
    }

    @Sentence("NONE when there are 10")
    static void promise2AnEleventh(Run x) {
        x.cells(9);
        x.due(x.cell(7, false), 9);
        x.due(x.cell(7, false), NONE);
        x.due(x.cell(0, true), NONE);
        x.due(x.told(0), 10);
        x.due(x.now(19), 7);
        x.due(x.now(20), NONE);
        x.due(x.weigh(10, 1), false);
    }

    @Sentence("or first is not 0 to 9")
    static void promise2FirstOutside(Run x) {
        x.due(x.cell(-1, false), NONE);
        x.due(x.cell(10, false), NONE);
        x.due(x.cell(-1, true), NONE);
        x.due(x.cell(10, true), NONE);
        for (int far : Run.FAR) {
            x.due(x.cell(far, false), NONE);
        }
        x.due(x.told(0), 0);
        x.due(x.cell(0, false), 0);
        x.due(x.cell(9, false), 1);
        x.due(x.now(10), 0);
        x.due(x.now(11), 9);
    }

    @Sentence("A CELL has this WEIGHT.")
    static void promise3TheLatestWeight(Run x) {
        x.cell(2, false);
        x.cell(3, false);
        x.due(x.weigh(1, 100), true);
        x.due(x.now(0), 300);
        x.due(x.weigh(1, -100), true);
        x.due(x.now(0), -300);
        x.due(x.weigh(0, 1), true);
        x.due(x.now(0), -298);
        x.due(x.weigh(1, 0), true);
        x.due(x.now(0), 2);
    }

    @Sentence("false when there is no such one")
    static void promise3NoSuchCell(Run x) {
        x.due(x.weigh(0, 1), false);
        x.cell(1, false);
        x.due(x.weigh(1, 1), false);
        x.due(x.weigh(-1, 1), false);
        x.due(x.weigh(9, 1), false);
        x.due(x.weigh(10, 1), false);
        for (int far : Run.FAR) {
            x.due(x.weigh(far, 1), false);
        }
        x.due(x.now(0), 0);
        x.cell(1, false);
        x.due(x.now(0), 0);
        x.due(x.weigh(1, 1), true);
    }

    @Sentence("or weight is not -100 to 100")
    static void promise3WeightOutside(Run x) {
        x.cell(1, false);
        x.due(x.weigh(0, 100), true);
        x.due(x.weigh(0, 101), false);
        x.due(x.now(0), 100);
        x.due(x.weigh(0, -100), true);
        x.due(x.weigh(0, -101), false);
        for (int far : Run.FAR) {
            x.due(x.weigh(0, far), false);
        }
        x.due(x.now(0), -100);
    }

    @Sentence("A MOVE without anything: its number")
    static void promise4WithoutAnything(Run x) {
        x.cell(4, false);
        for (int move = 0; move < 24; move++) {
            x.due(x.move(), move);
            x.due(x.step(move), 1);
            x.due(x.now(10), 4);
            x.due(x.now(1), 0);
        }
        x.goal(0, 0, 0);
        x.due(x.search(0, 1), 0);
        x.due(x.never(0), NONE);
        x.due(x.seen(0), false);
    }

    @Sentence("NONE when there are 24")
    static void promise4ATwentyFifth(Run x) {
        for (int i = 0; i < 23; i++) {
            x.move();
        }
        x.due(x.move(), 23);
        x.due(x.move(), NONE);
        x.due(x.move(), NONE);
        x.due(x.told(1), 24);
        x.due(x.step(23), 1);
        x.due(x.step(24), NONE);
    }

    @Sentence("A MOVE has one CONDITION more.")
    static void promise5OneMore(Run x) {
        x.cell(5, false);
        int move = x.move();
        int other = x.move();
        x.due(x.when(move, 0, 2, 6), true);
        x.due(x.step(move), 1);
        x.due(x.when(move, 0, 3, 5), true);
        x.due(x.step(move), 0);
        x.due(x.when(move, 0, 0, 5), true);
        x.due(x.step(move), 0);
        x.due(x.step(other), 1);
    }

    @Sentence("false when there is no such MOVE")
    static void promise5NoSuchMove(Run x) {
        x.cells(1);
        x.due(x.when(0, 0, 0, 9), false);
        x.move();
        x.due(x.when(1, 0, 0, 9), false);
        x.due(x.when(-1, 0, 0, 9), false);
        x.due(x.when(24, 0, 0, 9), false);
        for (int far : Run.FAR) {
            x.due(x.when(far, 0, 0, 9), false);
        }
        x.move();
        x.due(x.step(0), 1);
        x.due(x.step(1), 1);
    }

    @Sentence(", or CELL")
    static void promise5NoSuchCell(Run x) {
        x.move();
        x.due(x.when(0, 0, 0, 9), false);
        x.cells(2);
        x.due(x.when(0, 2, 0, 9), false);
        x.due(x.when(0, -1, 0, 9), false);
        x.due(x.when(0, 10, 0, 9), false);
        for (int far : Run.FAR) {
            x.due(x.when(0, far, 0, 9), false);
        }
        x.due(x.step(0), 1);
        x.due(x.when(0, 1, 0, 9), true);
        x.due(x.step(0), 0);
    }

    @Sentence("relation is not 0 to 3")
    static void promise5RelationOutside(Run x) {
        x.cell(5, false);
        x.move();
        x.due(x.when(0, 0, -1, 5), false);
        x.due(x.when(0, 0, 4, 5), false);
        for (int far : Run.FAR) {
            x.due(x.when(0, 0, far, 5), false);
        }
        x.due(x.step(0), 1);
        x.due(x.when(0, 0, 0, 5), true);
        x.due(x.step(0), 1);
        x.due(x.when(0, 0, 3, 5), true);
        x.due(x.step(0), 0);
    }

    @Sentence("v not 0 to 9")
    static void promise5ValueOutside(Run x) {
        x.cell(5, false);
        x.move();
        for (int relation = 0; relation <= 3; relation++) {
            x.due(x.when(0, 0, relation, -1), false);
            x.due(x.when(0, 0, relation, 10), false);
            for (int far : Run.FAR) {
                x.due(x.when(0, 0, relation, far), false);
            }
        }
        x.due(x.step(0), 1);
        x.due(x.when(0, 0, 3, 0), true);
        x.due(x.when(0, 0, 2, 9), true);
        x.due(x.step(0), 1);
    }

    @Sentence("or it has 6")
    static void promise5ASeventh(Run x) {
        x.cell(5, false);
        x.move();
        x.move();
        for (int i = 0; i < 6; i++) {
            x.due(x.when(0, 0, 0, 5), true);
        }
        x.due(x.when(0, 0, 0, 9), false);
        x.due(x.when(0, 0, 0, 5), false);
        x.due(x.step(0), 1);
        x.due(x.step(1), 1);
        x.due(x.when(1, 0, 0, 9), true);
        x.due(x.step(1), 0);
        x.due(x.step(0), 1);
    }

    @Sentence("A MOVE has one EFFECT more.")
    static void promise6OneMore(Run x) {
        x.cells(1);
        int move = x.move();
        int other = x.move();
        for (int effects = 1; effects <= 6; effects++) {
            x.due(x.then(move, 1, 0, 1), true);
            x.begin();
            x.due(x.step(move), 1);
            x.due(x.now(10), effects);
        }
        x.begin();
        x.due(x.step(other), 1);
        x.due(x.now(10), 0);
    }

    @Sentence("false when there is no such MOVE")
    static void promise6NoSuchMove(Run x) {
        x.cells(1);
        x.due(x.then(0, 0, 0, 9), false);
        x.move();
        x.due(x.then(1, 0, 0, 9), false);
        x.due(x.then(-1, 0, 0, 9), false);
        x.due(x.then(24, 0, 0, 9), false);
        for (int far : Run.FAR) {
            x.due(x.then(far, 0, 0, 9), false);
        }
        x.move();
        x.due(x.step(0), 1);
        x.due(x.step(1), 1);
        x.due(x.now(10), 0);
    }

    @Sentence(", or CELL")
    static void promise6NoSuchCell(Run x) {
        x.move();
        x.due(x.then(0, 0, 0, 9), false);
        x.cells(2);
        for (int kind = 0; kind <= 3; kind++) {
            x.due(x.then(0, kind, 2, 1), false);
            x.due(x.then(0, kind, -1, 1), false);
            x.due(x.then(0, kind, 10, 1), false);
            for (int far : Run.FAR) {
                x.due(x.then(0, kind, far, 1), false);
            }
        }
        x.cells(1);
        x.due(x.step(0), 1);
        x.due(x.now(10), 0);
        x.due(x.now(11), 0);
        x.due(x.now(12), 0);
        x.due(x.then(0, 0, 2, 9), true);
    }

    @Sentence("kind is not 0 to 3")
    static void promise6KindOutside(Run x) {
        x.cells(2);
        x.move();
        x.due(x.then(0, -1, 0, 1), false);
        x.due(x.then(0, 4, 0, 1), false);
        for (int far : Run.FAR) {
            x.due(x.then(0, far, 0, 1), false);
        }
        x.due(x.step(0), 1);
        x.due(x.now(10), 0);
        for (int kind = 0; kind <= 3; kind++) {
            x.due(x.then(0, kind, 0, 1), true);
        }
    }

    /** For a kind of effect the least and the most that v may be, both with their neighbours. */
    private static void valueFromTo(Run x, int kind, int least, int most) {
        x.cells(3);
        x.move();
        x.move();
        x.due(x.then(0, kind, 0, least - 1), false);
        x.due(x.then(0, kind, 0, most + 1), false);
        for (int far : Run.FAR) {
            x.due(x.then(0, kind, 0, far), false);
        }
        x.due(x.step(0), 1);
        x.due(x.now(10), 0);
        x.due(x.then(1, kind, 0, least), true);
        x.due(x.then(1, kind, 0, most), true);
    }

    @Sentence("v is none that it may be")
    static void promise6ValueToBecome(Run x) {
        valueFromTo(x, 0, 0, 9);
    }

    @Sentence("v is none that it may be")
    static void promise6ValueToAdd(Run x) {
        valueFromTo(x, 1, -9, 9);
    }

    @Sentence("(for 2 a CELL that there is)")
    static void promise6CellToCopy(Run x) {
        valueFromTo(x, 2, 0, 2);
    }

    @Sentence("v is none that it may be")
    static void promise6ValueOfChance(Run x) {
        valueFromTo(x, 3, 1, 10);
    }

    @Sentence("(for 2 a CELL that there is)")
    static void promise6CellMadeLater(Run x) {
        x.cells(1);
        x.move();
        x.due(x.then(0, 2, 0, 1), false);
        x.cell(8, true);
        x.due(x.then(0, 2, 0, 1), true);
        x.due(x.step(0), 1);
        x.due(x.now(10), 8);
    }

    @Sentence("or it has 6")
    static void promise6ASeventh(Run x) {
        x.cells(2);
        x.move();
        x.move();
        for (int i = 0; i < 6; i++) {
            x.due(x.then(0, 1, 0, 1), true);
        }
        for (int kind = 0; kind <= 3; kind++) {
            x.due(x.then(0, kind, 1, 1), false);
        }
        x.due(x.step(0), 1);
        x.due(x.now(10), 6);
        x.due(x.now(11), 0);
        x.due(x.then(1, 0, 1, 4), true);
        x.due(x.step(1), 1);
        x.due(x.now(10), 6);
        x.due(x.now(11), 4);
    }

    @Sentence("A MOVE has this TEXT (NONE: none).")
    static void promise7TheLatestText(Run x) {
        x.move();
        x.goal(2, 31, 0);
        x.due(x.show(0, 31), true);
        x.due(x.search(0, 2), 1);
        x.due(x.show(0, 0), true);
        x.due(x.search(0, 2), 0);
        x.due(x.seen(31), false);
        x.due(x.seen(0), true);
    }

    @Sentence("(NONE: none)")
    static void promise7NoTextAnyMore(Run x) {
        x.move();
        x.due(x.show(0, NONE), true);
        x.show(0, 5);
        x.due(x.show(0, NONE), true);
        x.goal(2, 5, 0);
        x.due(x.search(0, 2), 0);
        for (int text = 0; text <= 31; text++) {
            x.due(x.seen(text), false);
        }
        x.due(x.never(0), NONE);
    }

    @Sentence("false when there is no such MOVE")
    static void promise7NoSuchMove(Run x) {
        x.due(x.show(0, 5), false);
        x.move();
        x.due(x.show(1, 5), false);
        x.due(x.show(-1, 5), false);
        x.due(x.show(24, 5), false);
        x.due(x.show(1, NONE), false);
        for (int far : Run.FAR) {
            x.due(x.show(far, 5), false);
        }
        x.move();
        x.goal(1, 1, 0);
        x.search(0, 2);
        x.due(x.seen(5), false);
        x.due(x.never(0), NONE);
    }

    @Sentence("or text is not NONE to 31")
    static void promise7TextOutside(Run x) {
        x.move();
        x.due(x.show(0, -2), false);
        x.due(x.show(0, 32), false);
        for (int far : Run.FAR) {
            x.due(x.show(0, far), false);
        }
        x.goal(1, 1, 0);
        x.search(0, 2);
        for (int text = 0; text <= 31; text++) {
            x.due(x.seen(text), false);
        }
        for (int text = NONE; text <= 31; text++) {
            x.due(x.show(0, text), true);
        }
        x.due(x.show(0, 32), false);
        x.search(0, 2);
        x.due(x.seen(31), true);
    }

    @Sentence("A MOVE has this ENDING (0: none).")
    static void promise8TheLatestEnding(Run x) {
        x.move();
        for (int ending = 1; ending <= 9; ending++) {
            x.due(x.ends(0, ending), true);
            x.begin();
            x.due(x.step(0), 1);
            x.due(x.now(1), ending);
            x.due(x.step(0), 0);
        }
    }

    @Sentence("(0: none)")
    static void promise8NoEndingAnyMore(Run x) {
        x.move();
        x.due(x.ends(0, 0), true);
        x.ends(0, 4);
        x.due(x.ends(0, 0), true);
        x.due(x.step(0), 1);
        x.due(x.now(1), 0);
        x.due(x.step(0), 1);
    }

    @Sentence("(0: none)")
    static void promise8WhatHasEndedStaysSo(Run x) {
        x.move();
        x.ends(0, 4);
        x.step(0);
        x.ends(0, 0);
        x.due(x.now(1), 4);
        x.due(x.step(0), 0);
    }

    @Sentence("false when there is no such MOVE")
    static void promise8NoSuchMove(Run x) {
        x.due(x.ends(0, 1), false);
        x.move();
        x.due(x.ends(1, 1), false);
        x.due(x.ends(-1, 1), false);
        x.due(x.ends(24, 1), false);
        x.due(x.ends(1, 0), false);
        for (int far : Run.FAR) {
            x.due(x.ends(far, 1), false);
        }
        x.move();
        x.due(x.step(0), 1);
        x.due(x.step(1), 1);
        x.due(x.now(1), 0);
    }

    @Sentence("or ending is not 0 to 9")
    static void promise8EndingOutside(Run x) {
        x.move();
        x.due(x.ends(0, -1), false);
        x.due(x.ends(0, 10), false);
        for (int far : Run.FAR) {
            x.due(x.ends(0, far), false);
        }
        x.due(x.step(0), 1);
        x.due(x.now(1), 0);
        x.due(x.ends(0, 9), true);
        x.due(x.ends(0, 10), false);
        x.due(x.ends(0, -1), false);
        x.due(x.step(0), 1);
        x.due(x.now(1), 9);
    }

    @Sentence("A MOVE comes behind the draft. Answers how many it has")
    static void promise9HowMany(Run x) {
        x.cells(1);
        int set = x.setting(0, 3);
        int add = x.adding(0, 4);
        x.due(x.of(set), 1);
        x.due(x.of(add), 2);
        x.due(x.of(add), 3);
        x.macro();
        x.due(x.step(100), 1);
        x.due(x.now(10), 1);
        x.due(x.of(set), 1);
    }

    @Sentence("NONE when there is no such MOVE")
    static void promise9NoSuchMove(Run x) {
        x.due(x.of(0), NONE);
        x.move();
        x.due(x.of(1), NONE);
        x.due(x.of(-1), NONE);
        x.due(x.of(24), NONE);
        x.macroOf(0, 0);
        x.due(x.of(100), NONE);
        for (int far : Run.FAR) {
            x.due(x.of(far), NONE);
        }
        x.due(x.told(4), 0);
        x.due(x.of(0), 1);
    }

    @Sentence("or it has 6")
    static void promise9ASeventh(Run x) {
        x.cells(1);
        int one = x.adding(0, 1);
        int nine = x.setting(0, 9);
        for (int size = 1; size <= 6; size++) {
            x.due(x.of(one), size);
        }
        x.due(x.of(nine), NONE);
        x.due(x.of(one), NONE);
        x.due(x.told(4), 6);
        x.due(x.macro(), 0);
        x.due(x.step(100), 1);
        x.due(x.now(10), 6);
    }

    @Sentence("The draft, which is empty then, becomes a MACRO: its number")
    static void promise10TheDraftIsEmptyThen(Run x) {
        x.cells(1);
        int one = x.adding(0, 1);
        for (int macro = 0; macro < 8; macro++) {
            int size = macro < 4 ? 2 : 6;
            for (int i = 0; i < size; i++) {
                x.of(one);
            }
            x.due(x.macro(), macro);
            x.due(x.told(4), 0);
            x.due(x.told(2), macro + 1);
            x.begin();
            x.due(x.step(100 + macro), 1);
            x.due(x.now(10), size);
        }
        x.due(x.macro(), NONE);
    }

    @Sentence("NONE when it has less than 2 (it stays)")
    static void promise10LessThanTwo(Run x) {
        x.cells(1);
        int five = x.setting(0, 5);
        int one = x.adding(0, 1);
        x.due(x.macro(), NONE);
        x.due(x.told(4), 0);
        x.of(five);
        x.due(x.macro(), NONE);
        x.due(x.macro(), NONE);
        x.due(x.told(4), 1);
        x.due(x.told(2), 0);
        x.due(x.step(100), NONE);
        x.due(x.of(one), 2);
        x.due(x.macro(), 0);
        x.due(x.step(100), 1);
        x.due(x.now(10), 6);
    }

    @Sentence("or there are 8 (likewise)")
    static void promise10ANinth(Run x) {
        x.cells(1);
        int one = x.adding(0, 1);
        for (int i = 0; i < 8; i++) {
            x.due(x.macroOf(one, one), i);
        }
        x.due(x.macroOf(one, one, one), NONE);
        x.due(x.macro(), NONE);
        x.due(x.told(4), 3);
        x.due(x.told(2), 8);
        x.due(x.of(one), 4);
        x.due(x.step(108), NONE);
        x.due(x.step(107), 1);
        x.due(x.now(10), 2);
    }

    @Sentence("(b counts for kind 0 alone)")
    static void promise11OtherThings(Run x) {
        x.cell(3, false);
        x.weigh(0, 1);
        int end = x.showing(7);
        x.ends(end, 2);
        x.due(x.goal(1, 3, Integer.MIN_VALUE), 1);
        x.due(x.goal(2, 7, -1), 2);
        x.due(x.goal(3, 2, Integer.MAX_VALUE), 3);
        x.due(x.goal(0, 0, 3), 4);
        x.due(x.search(0, 2), 1);
    }

    @Sentence("(b counts for kind 0 alone)")
    static void promise11TheValue(Run x) {
        x.cell(3, false);
        x.move();
        x.due(x.goal(0, 0, 4), 1);
        x.due(x.now(3), 0);
        x.due(x.search(0, 2), 0);
        x.clear();
        x.due(x.goal(0, 0, 3), 1);
        x.due(x.now(3), 1);
        x.due(x.search(0, 2), 1);
    }

    @Sentence("Answers how many; NONE when there are 4")
    static void promise11AFifth(Run x) {
        x.cell(3, false);
        x.move();
        for (int many = 1; many <= 4; many++) {
            x.due(x.goal(0, 0, 3), many);
        }
        x.due(x.goal(0, 0, 4), NONE);
        x.due(x.goal(1, 9999, 0), NONE);
        x.due(x.goal(2, 0, 0), NONE);
        x.due(x.goal(3, 1, 0), NONE);
        x.due(x.told(3), 4);
        x.due(x.search(0, 2), 1);
    }

    @Sentence("kind is not 0 to 3")
    static void promise11KindOutside(Run x) {
        x.cells(2);
        x.due(x.goal(-1, 1, 1), NONE);
        x.due(x.goal(4, 1, 1), NONE);
        for (int far : Run.FAR) {
            x.due(x.goal(far, 1, 1), NONE);
        }
        x.due(x.told(3), 0);
        for (int kind = 0; kind <= 3; kind++) {
            x.due(x.goal(kind, 1, 1), kind + 1);
        }
    }

    @Sentence("for 0 a CELL and 0 to 9")
    static void promise11NoSuchCell(Run x) {
        x.due(x.goal(0, 0, 0), NONE);
        x.cells(2);
        x.due(x.goal(0, -1, 0), NONE);
        x.due(x.goal(0, 2, 0), NONE);
        x.due(x.goal(0, 10, 0), NONE);
        for (int far : Run.FAR) {
            x.due(x.goal(0, far, 0), NONE);
        }
        x.due(x.told(3), 0);
        x.due(x.goal(0, 0, 0), 1);
        x.due(x.goal(0, 1, 0), 2);
    }

    @Sentence("for 0 a CELL and 0 to 9")
    static void promise11NoSuchValue(Run x) {
        x.cells(1);
        x.due(x.goal(0, 0, -1), NONE);
        x.due(x.goal(0, 0, 10), NONE);
        for (int far : Run.FAR) {
            x.due(x.goal(0, 0, far), NONE);
        }
        x.due(x.told(3), 0);
        x.due(x.goal(0, 0, 0), 1);
        x.due(x.goal(0, 0, 9), 2);
    }

    @Sentence("or a, b are none")
    static void promise11AnyScore(Run x) {
        x.due(x.goal(1, Integer.MIN_VALUE, 0), 1);
        x.due(x.now(3), 1);
        x.due(x.goal(1, -9001, 0), 2);
        x.due(x.goal(1, 9001, 0), 3);
        x.due(x.now(3), 0);
        x.due(x.goal(1, Integer.MAX_VALUE, 0), 4);
    }

    @Sentence("for 2 0 to 31")
    static void promise11NoSuchText(Run x) {
        x.due(x.goal(2, -1, 0), NONE);
        x.due(x.goal(2, 32, 0), NONE);
        for (int far : Run.FAR) {
            x.due(x.goal(2, far, 0), NONE);
        }
        x.due(x.told(3), 0);
        x.due(x.goal(2, 0, 0), 1);
        x.due(x.goal(2, 31, 0), 2);
    }

    @Sentence("for 3 1 to 9")
    static void promise11NoSuchEnding(Run x) {
        x.due(x.goal(3, 0, 0), NONE);
        x.due(x.goal(3, 10, 0), NONE);
        x.due(x.goal(3, -1, 0), NONE);
        for (int far : Run.FAR) {
            x.due(x.goal(3, far, 0), NONE);
        }
        x.due(x.told(3), 0);
        x.due(x.goal(3, 1, 0), 1);
        x.due(x.goal(3, 9, 0), 2);
    }

    @Sentence("THE GOAL has none any more. Answers how many there were.")
    static void promise12HowManyThereWere(Run x) {
        x.cells(1);
        x.due(x.clear(), 0);
        for (int many = 1; many <= 4; many++) {
            for (int i = 0; i < many; i++) {
                x.goal(0, 0, 0);
            }
            x.due(x.clear(), many);
            x.due(x.told(3), 0);
            x.due(x.clear(), 0);
        }
    }

    @Sentence("THE GOAL has none any more.")
    static void promise12OldOnesDoNotCount(Run x) {
        x.cells(1);
        int one = x.adding(0, 1);
        for (int i = 0; i < 4; i++) {
            x.goal(0, 0, 9);
        }
        x.clear();
        x.due(x.now(3), 0);
        x.due(x.search(0, 10), -2);
        x.due(x.goal(0, 0, 1), 1);
        x.due(x.search(0, 10), 1);
        x.duePlay(one);
    }
}
