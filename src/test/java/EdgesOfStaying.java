import java.util.ArrayList;
import java.util.List;

/**
 * The two sentences of the terms that bind every call: what the latest search told stays, and a
 * call that is refused changes nothing.
 */
final class EdgesOfStaying {
    private static final int NONE = Run.NONE;

    private EdgesOfStaying() {
    }

    /** A play is found with five nodes, one of them ended; texts 1 and 4 are not seen. */
    private static void searched(Run x) {
        x.cell(0, false);
        x.cell(5, false);
        x.weigh(0, 10);
        x.weigh(1, 1);
        int one = x.adding(0, 1);
        x.show(one, 2);
        int end = x.ending(7);
        x.when(end, 0, 0, 0);
        x.show(end, 3);
        x.when(x.showing(1), 0, 0, 9);
        x.when(x.showing(4), 0, 0, 8);
        x.of(one);
        x.of(one);
        x.goal(0, 0, 3);
        x.due(x.search(0, 10), 1);
        x.due(x.told(5), 5);
        x.due(x.never(1), 4);
    }

    private static void stays(Run x, Run.Call change) {
        searched(x);
        List<Long> before = x.toldBySearch();
        change.on(x);
        x.dueAll(x.toldBySearch(), before);
    }

    @Sentence("What the latest SEARCH told stays as it is till the next one")
    static void termsStaysBehindCell(Run x) {
        stays(x, y -> y.cell(6, true));
    }

    @Sentence("What the latest SEARCH told stays as it is till the next one")
    static void termsStaysBehindWeigh(Run x) {
        stays(x, y -> y.weigh(0, -50) && y.weigh(1, 99) ? 1 : 0);
    }

    @Sentence("What the latest SEARCH told stays as it is till the next one")
    static void termsStaysBehindMove(Run x) {
        stays(x, y -> y.showing(0));
    }

    @Sentence("What the latest SEARCH told stays as it is till the next one")
    static void termsStaysBehindWhen(Run x) {
        stays(x, y -> y.when(0, 0, 0, 9) ? 1 : 0);
    }

    @Sentence("What the latest SEARCH told stays as it is till the next one")
    static void termsStaysBehindThen(Run x) {
        stays(x, y -> y.then(0, 0, 0, 9) ? 1 : 0);
    }

    @Sentence("What the latest SEARCH told stays as it is till the next one")
    static void termsStaysBehindShow(Run x) {
        stays(x, y -> y.show(0, 0) && y.show(1, 1) && y.show(2, 2) && y.show(3, NONE) ? 1 : 0);
    }

    @Sentence("What the latest SEARCH told stays as it is till the next one")
    static void termsStaysBehindEnds(Run x) {
        stays(x, y -> y.ends(0, 1) && y.ends(1, 0) ? 1 : 0);
    }

    @Sentence("What the latest SEARCH told stays as it is till the next one")
    static void termsStaysBehindOfAndMacro(Run x) {
        stays(x, y -> y.macroOf(1, 1));
    }

    @Sentence("What the latest SEARCH told stays as it is till the next one")
    static void termsStaysBehindGoal(Run x) {
        stays(x, y -> y.goal(1, 9999, 0));
    }

    @Sentence("What the latest SEARCH told stays as it is till the next one")
    static void termsStaysBehindClear(Run x) {
        stays(x, Run::clear);
    }

    @Sentence("What the latest SEARCH told stays as it is till the next one")
    static void termsStaysBehindStepsAndBegin(Run x) {
        stays(x, y -> {
            y.showing(0);
            y.due(y.step(0), 1);
            y.due(y.step(4), 1);
            y.begin();
            y.due(y.step(1), 1);
            return y.now(2);
        });
    }

    @Sentence("What the latest SEARCH told stays as it is till the next one")
    static void termsStaysBehindReplays(Run x) {
        stays(x, y -> {
            y.due(y.replays(), 1);
            y.ends(0, 1);
            y.due(y.replays(), 0);
            return 0;
        });
    }

    @Sentence("What the latest SEARCH told stays as it is till the next one")
    static void termsStaysBehindARefusedSearch(Run x) {
        stays(x, y -> {
            y.due(y.search(2, 10), -2);
            y.due(y.search(-1, 10), -2);
            y.due(y.search(0, 0), -2);
            y.due(y.search(1, 1501), -2);
            y.clear();
            y.due(y.search(0, 10), -2);
            return 0;
        });
    }

    @Sentence("till the next one")
    static void termsTheNextOneThatFindsNone(Run x) {
        searched(x);
        x.when(0, 0, 2, 1);
        x.due(x.search(0, 10), 0);
        x.dueNoPlay();
        x.due(x.told(5), 3);
        x.due(x.node(3, 0), NONE);
        x.due(x.node(4, 2), NONE);
        x.due(x.meet(0, 3), NONE);
        x.dueQueue(0, 1);
        x.due(x.told(7), 1);
        x.due(x.node(1, 5), 1);
    }

    @Sentence("till the next one")
    static void termsTheNextOneThatIsSpent(Run x) {
        searched(x);
        x.show(0, NONE);
        x.due(x.search(0, 1), NONE);
        x.dueNoPlay();
        x.due(x.told(5), 1);
        x.due(x.node(1, 10), NONE);
        x.dueQueue(0);
        x.due(x.seen(2), false);
        x.due(x.seen(3), false);
        // the move that shows 3 was not tried any more
        x.due(x.never(0), 1);
        x.due(x.never(1), 3);
        x.due(x.never(2), 4);
        x.due(x.never(3), NONE);
    }

    @Sentence("till the next one")
    static void termsTheNextOneWithAShorterPlay(Run x) {
        searched(x);
        x.clear();
        x.goal(0, 0, 1);
        x.due(x.search(1, 10), 1);
        x.duePlay(0);
        x.due(x.at(1), NONE);
        x.due(x.at(2), NONE);
        x.due(x.shortest(), false);
        x.due(x.node(0, 4), 1);
        x.due(x.node(1, 4), 0);
        x.dueQueue(0);
    }

    @Sentence("till the next one")
    static void termsTheNextOneHasItsOwnDead(Run x) {
        x.cells(1);
        x.when(x.adding(0, 1), 0, 2, 2);
        x.goal(0, 0, 9);
        x.search(0, 10);
        x.due(x.told(7), 1);
        x.due(x.node(2, 5), 1);
        x.move();
        x.search(0, 10);
        x.due(x.told(5), 3);
        x.due(x.told(7), 0);
        x.due(x.node(2, 5), 0);
        x.due(x.node(2, 4), 1);
        x.clear();
        x.goal(0, 0, 2);
        x.search(0, 10);
        x.due(x.node(2, 4), 0);
    }

    @Sentence("it was of the MOVES, CELLS, MACROS and THE GOAL as they were then")
    static void termsTheNextOneIsOfAllAsItIs(Run x) {
        searched(x);
        x.cell(8, false);
        x.weigh(0, -10);
        x.macro();
        x.then(0, 1, 2, 1);
        x.show(0, 31);
        x.goal(0, 2, 1);
        x.due(x.node(0, 12), NONE);
        // the first cell is 3 behind three, the new one is 1 then
        x.due(x.search(0, 20), 1);
        x.duePlay(0, 0, 0);
        x.due(x.node(0, 12), 8);
        int last = x.told(5) - 1;
        x.due(x.node(last, 6), 2);
        x.due(x.node(last, 12), 1);
        x.due(x.node(last, 2), -25);
        x.due(x.seen(31), true);
        x.due(x.seen(2), false);
    }

    @Sentence("it was of the MOVES, CELLS, MACROS and THE GOAL as they were then")
    static void termsASearchLeavesThePresentAlone(Run x) {
        searched(x);
        x.step(0);
        x.step(0);
        List<Long> before = x.toldNow();
        x.due(x.search(0, 10), 1);
        x.due(x.search(1, 2), NONE);
        x.due(x.search(2, 2), -2);
        x.due(x.replays(), NONE);
        x.due(x.search(1, 10), 1);
        x.due(x.replays(), 1);
        x.dueAll(x.toldNow(), before);
    }

    /** Each call of a story in which nothing is full, with many that tell what became of it. */
    private static List<Run.Call> story() {
        List<Run.Call> calls = new ArrayList<>();
        calls.add(x -> x.cell(0, false));
        calls.add(x -> x.cell(3, true));
        calls.add(x -> bit(x.weigh(0, 4)));
        calls.add(Run::move);
        calls.add(x -> bit(x.when(0, 0, 2, 6)));
        calls.add(x -> bit(x.then(0, 1, 0, 1)));
        calls.add(x -> bit(x.show(0, 2)));
        calls.add(Run::move);
        calls.add(x -> bit(x.when(1, 0, 3, 2)));
        calls.add(x -> bit(x.then(1, 3, 1, 10)));
        calls.add(x -> bit(x.ends(1, 5)));
        calls.add(x -> bit(x.show(1, 3)));
        calls.add(x -> x.step(0));
        calls.add(x -> x.of(0));
        calls.add(x -> x.goal(0, 0, 4));
        calls.add(x -> x.of(0));
        calls.add(x -> x.of(1));
        calls.add(Run::macro);
        calls.add(x -> x.of(1));
        calls.add(x -> x.goal(3, 5, 0));
        calls.add(x -> x.search(0, 20));
        askAll(calls);
        calls.add(Run::move);
        calls.add(x -> x.cell(9, false));
        calls.add(x -> x.step(2));
        calls.add(x -> x.step(100));
        calls.add(x -> x.now(1));
        calls.add(x -> x.now(10));
        calls.add(x -> x.now(12));
        calls.add(Run::clear);
        calls.add(x -> x.goal(0, 2, 0));
        calls.add(x -> x.search(1, 5));
        calls.add(x -> x.search(0, 20));
        askAll(calls);
        return calls;
    }

    private static void askAll(List<Run.Call> calls) {
        for (int i = 0; i < 10; i++) {
            int number = i;
            calls.add(x -> x.now(number));
            calls.add(x -> x.told(number));
            calls.add(x -> x.node(3, number));
        }
        calls.add(x -> x.now(10));
        calls.add(x -> x.now(11));
        calls.add(Run::length);
        calls.add(x -> x.at(2));
        calls.add(x -> x.never(0));
        calls.add(x -> bit(x.shortest()));
        calls.add(Run::replays);
    }

    private static long bit(boolean answer) {
        return answer ? 1 : 0;
    }

    /** The story with everything full that can be full; the first calls fill it. */
    private static List<Run.Call> fullStory() {
        List<Run.Call> calls = new ArrayList<>();
        calls.add(EdgesOfStaying::fill);
        calls.add(x -> x.search(0, 20));
        askAll(calls);
        for (int step : new int[] {0, 1, 23, 100, 107}) {
            calls.add(x -> x.step(step));
            calls.add(x -> x.now(10));
            calls.add(x -> x.now(19));
        }
        return calls;
    }

    private static long fill(Run x) {
        for (int cell = 0; cell < 10; cell++) {
            x.cell(cell, cell % 4 == 3);
        }
        for (int move = 0; move < 24; move++) {
            x.adding(move % 10, 1);
            x.when(move, move % 10, 2, 9);
        }
        for (int i = 0; i < 5; i++) {
            x.then(0, 1, 9 - i, 1);
            x.when(0, i, 1, 9);
        }
        for (int macro = 0; macro < 8; macro++) {
            x.macroOf(macro, macro + 1);
        }
        for (int i = 0; i < 6; i++) {
            x.of(i);
        }
        for (int cell = 0; cell < 4; cell++) {
            x.goal(0, cell, cell + (cell < 2 ? 1 : 0));
        }
        return 0;
    }

    /** The answers of a story, with a call that is to be refused behind each call of it. */
    private static List<Long> answers(Run x, List<Run.Call> calls, Run.Call refused, long due) {
        List<Long> all = new ArrayList<>();
        for (Run.Call call : calls) {
            all.add(call.on(x));
            if (refused != null) {
                x.due(refused.on(x), due);
            }
        }
        return all;
    }

    private static void refused(Run x, long due, Run.Call refused) {
        List<Long> plain = answers(x.another(), story(), null, 0);
        Run other = x.another();
        other.dueAll(answers(other, story(), refused, due), plain);
    }

    private static void refusedWhenFull(Run x, long due, Run.Call refused) {
        List<Long> plain = answers(x.another(), fullStory(), null, 0);
        Run other = x.another();
        other.dueAll(answers(other, fullStory(), refused, due), plain);
    }

    @Sentence("A call that is refused changes nothing.")
    static void termsRefusedCell(Run x) {
        refused(x, NONE, y -> y.cell(-1, false));
        refused(x, NONE, y -> y.cell(10, true));
        refused(x, NONE, y -> y.cell(Integer.MIN_VALUE, true));
        refusedWhenFull(x, NONE, y -> y.cell(0, true));
        refusedWhenFull(x, NONE, y -> y.cell(9, false));
    }

    @Sentence("A call that is refused changes nothing.")
    static void termsRefusedWeigh(Run x) {
        refused(x, 0, y -> bit(y.weigh(-1, 5)));
        refused(x, 0, y -> bit(y.weigh(3, 5)));
        refused(x, 0, y -> bit(y.weigh(0, 101)));
        refused(x, 0, y -> bit(y.weigh(0, -101)));
        refusedWhenFull(x, 0, y -> bit(y.weigh(10, 1)));
    }

    @Sentence("A call that is refused changes nothing.")
    static void termsRefusedMove(Run x) {
        refusedWhenFull(x, NONE, Run::move);
    }

    @Sentence("A call that is refused changes nothing.")
    static void termsRefusedWhen(Run x) {
        refused(x, 0, y -> bit(y.when(-1, 0, 0, 9)));
        refused(x, 0, y -> bit(y.when(3, 0, 0, 9)));
        refused(x, 0, y -> bit(y.when(0, -1, 0, 9)));
        refused(x, 0, y -> bit(y.when(0, 3, 0, 9)));
        refused(x, 0, y -> bit(y.when(0, 0, -1, 9)));
        refused(x, 0, y -> bit(y.when(0, 0, 4, 9)));
        refused(x, 0, y -> bit(y.when(0, 0, 0, -1)));
        refused(x, 0, y -> bit(y.when(0, 0, 0, 10)));
        refusedWhenFull(x, 0, y -> bit(y.when(0, 9, 0, 0)));
    }

    @Sentence("A call that is refused changes nothing.")
    static void termsRefusedThen(Run x) {
        refused(x, 0, y -> bit(y.then(-1, 0, 0, 9)));
        refused(x, 0, y -> bit(y.then(3, 0, 0, 9)));
        refused(x, 0, y -> bit(y.then(0, 0, -1, 9)));
        refused(x, 0, y -> bit(y.then(0, 0, 3, 9)));
        refused(x, 0, y -> bit(y.then(0, -1, 0, 9)));
        refused(x, 0, y -> bit(y.then(0, 4, 0, 9)));
        refusedWhenFull(x, 0, y -> bit(y.then(0, 0, 0, 7)));
        refusedWhenFull(x, 0, y -> bit(y.then(0, 3, 9, 10)));
    }

    @Sentence("A call that is refused changes nothing.")
    static void termsRefusedThenOfItsValue(Run x) {
        refused(x, 0, y -> bit(y.then(0, 0, 0, -1)));
        refused(x, 0, y -> bit(y.then(0, 0, 0, 10)));
        refused(x, 0, y -> bit(y.then(0, 1, 0, -10)));
        refused(x, 0, y -> bit(y.then(0, 1, 0, 10)));
        refused(x, 0, y -> bit(y.then(0, 2, 0, -1)));
        refused(x, 0, y -> bit(y.then(0, 2, 0, 3)));
        refused(x, 0, y -> bit(y.then(0, 3, 0, 0)));
        refused(x, 0, y -> bit(y.then(0, 3, 0, 11)));
    }

    @Sentence("A call that is refused changes nothing.")
    static void termsRefusedShow(Run x) {
        refused(x, 0, y -> bit(y.show(-1, 9)));
        refused(x, 0, y -> bit(y.show(3, 9)));
        refused(x, 0, y -> bit(y.show(0, -2)));
        refused(x, 0, y -> bit(y.show(0, 32)));
        refusedWhenFull(x, 0, y -> bit(y.show(24, 9)));
    }

    @Sentence("A call that is refused changes nothing.")
    static void termsRefusedEnds(Run x) {
        refused(x, 0, y -> bit(y.ends(-1, 9)));
        refused(x, 0, y -> bit(y.ends(3, 9)));
        refused(x, 0, y -> bit(y.ends(0, -1)));
        refused(x, 0, y -> bit(y.ends(0, 10)));
        refusedWhenFull(x, 0, y -> bit(y.ends(24, 9)));
    }

    @Sentence("A call that is refused changes nothing.")
    static void termsRefusedOf(Run x) {
        refused(x, NONE, y -> y.of(-1));
        refused(x, NONE, y -> y.of(3));
        refused(x, NONE, y -> y.of(100));
        refusedWhenFull(x, NONE, y -> y.of(0));
        refusedWhenFull(x, NONE, y -> y.of(24));
    }

    @Sentence("A call that is refused changes nothing.")
    static void termsRefusedMacro(Run x) {
        refused(x, NONE, y -> y.told(4) < 2 ? y.macro() : NONE);
        refusedWhenFull(x, NONE, Run::macro);
    }

    @Sentence("A call that is refused changes nothing.")
    static void termsRefusedGoal(Run x) {
        refused(x, NONE, y -> y.goal(-1, 0, 0));
        refused(x, NONE, y -> y.goal(4, 0, 0));
        refused(x, NONE, y -> y.goal(0, 3, 0));
        refused(x, NONE, y -> y.goal(0, 0, 10));
        refused(x, NONE, y -> y.goal(2, 32, 0));
        refused(x, NONE, y -> y.goal(3, 0, 0));
        refused(x, NONE, y -> y.goal(3, 10, 0));
        refusedWhenFull(x, NONE, y -> y.goal(0, 0, 0));
        refusedWhenFull(x, NONE, y -> y.goal(1, 0, 0));
    }

    @Sentence("A call that is refused changes nothing.")
    static void termsRefusedSearch(Run x) {
        refused(x, -2, y -> y.search(-1, 9));
        refused(x, -2, y -> y.search(2, 9));
        refused(x, -2, y -> y.search(0, 0));
        refused(x, -2, y -> y.search(1, 1501));
        refused(x, -2, y -> y.told(3) == 0 ? y.search(0, 9) : -2);
        refusedWhenFull(x, -2, y -> y.search(0, -1));
    }

    @Sentence("A call that is refused changes nothing.")
    static void termsRefusedStep(Run x) {
        refused(x, NONE, y -> y.step(-1));
        refused(x, NONE, y -> y.step(3));
        refused(x, NONE, y -> y.step(101));
        refusedWhenFull(x, NONE, y -> y.step(24));
        refusedWhenFull(x, NONE, y -> y.step(108));
    }

    @Sentence("A call that is refused changes nothing.")
    static void termsRefusedQuestions(Run x) {
        refused(x, NONE, y -> y.at(-1));
        refused(x, NONE, y -> y.node(-1, 0));
        refused(x, NONE, y -> y.node(0, 7));
        refused(x, NONE, y -> y.meet(0, 1500));
        refused(x, NONE, y -> y.never(-1));
        refused(x, NONE, y -> y.now(9));
        refused(x, NONE, y -> y.told(8));
    }

    @Sentence("A call that is refused changes nothing.")
    static void termsRefusedQueue(Run x) {
        refused(x, 1, y -> {
            y.dueThrow(-1);
            y.dueThrow(1500);
            return 1;
        });
    }
}
