import java.util.Arrays;

/** Looks for plays of a story. The document's promises say what each call of the face answers. */
public final class PlaySearch {
    public static final int NONE = -1;

    private static final int MOST_CELLS = 10;
    private static final int MOST_WEIGHT = 100;
    private static final int MOST_MOVES = 24;
    private static final int MOST_CONDITIONS = 6;
    private static final int MOST_EFFECTS = 6;
    private static final int MOST_ENDING = 9;
    private static final int MOST_MACROS = 8;
    private static final int LEAST_IN_MACRO = 2;
    private static final int MOST_IN_MACRO = 6;
    private static final int MOST_GOALS = 4;
    private static final int MOST_NODES = 1500;
    private static final int TEXTS = 32;
    private static final int VALUES = 10;

    // A WORLD is one long, some bits a CELL, so that keeping and comparing WORLDS makes no objects.
    private static final int CELL_BITS = 4;
    private static final long CELL_MASK = 15;

    private static final int FIRST_MACRO = 100;
    private static final int FIRST_CELL_ASKED = 10;

    private static final int IN_BREADTH = 0;
    private static final int BY_BEST = 1;

    private static final int FOUND = 1;
    private static final int NONE_LEFT = 0;
    private static final int SPENT = -1;
    private static final int REFUSED = -2;
    private static final int GOES_ON = 2;

    private final Story story = new Story();
    private final Search latest = new Search();
    private final Moment present = new Moment();
    private final Moment replayed = new Moment();

    public PlaySearch() {
    }

    public int cell(int first, boolean isClock) {
        if (story.cells.count >= MOST_CELLS || !isValue(first)) {
            return NONE;
        }
        int cell = story.cells.add(first, isClock);
        present.world = withValue(present.world, cell, first);
        return cell;
    }

    public boolean weigh(int cell, int weight) {
        if (!story.cells.has(cell) || !isWithin(weight, -MOST_WEIGHT, MOST_WEIGHT)) {
            return false;
        }
        story.cells.weights[cell] = weight;
        return true;
    }

    public int move() {
        return story.moves.count < MOST_MOVES ? story.moves.add() : NONE;
    }

    public boolean when(int move, int cell, int relation, int v) {
        if (!story.moves.has(move) || !story.cells.has(cell)
                || !Moves.isRelation(relation) || !isValue(v)) {
            return false;
        }
        return story.moves.addCondition(move, cell, relation, v);
    }

    public boolean then(int move, int kind, int cell, int v) {
        if (!story.moves.has(move) || !story.cells.has(cell)
                || !Moves.isEffect(kind, v, story.cells.count)) {
            return false;
        }
        return story.moves.addEffect(move, kind, cell, v);
    }

    public boolean show(int move, int text) {
        if (!story.moves.has(move) || text != NONE && !isText(text)) {
            return false;
        }
        story.moves.texts[move] = text;
        return true;
    }

    public boolean ends(int move, int ending) {
        if (!story.moves.has(move) || !isWithin(ending, 0, MOST_ENDING)) {
            return false;
        }
        story.moves.endings[move] = ending;
        return true;
    }

    public int of(int move) {
        if (!story.moves.has(move)) {
            return NONE;
        }
        return story.macros.addToDraft(move);
    }

    public int macro() {
        return story.macros.addDraft();
    }

    public int goal(int kind, int a, int b) {
        if (!Goal.isPart(kind, a, b, story.cells.count)) {
            return NONE;
        }
        return story.goal.add(kind, a, b);
    }

    public int clear() {
        int had = story.goal.count;
        story.goal.count = 0;
        return had;
    }

    public int search(int how, int nodes) {
        if (!isWithin(how, IN_BREADTH, BY_BEST) || !isWithin(nodes, 1, MOST_NODES)
                || story.goal.count == 0) {
            return REFUSED;
        }
        return latest.run(story, how == BY_BEST, nodes);
    }

    public int length() {
        return latest.play.length;
    }

    public int at(int i) {
        return latest.play.moveAt(i);
    }

    public boolean shortest() {
        return latest.isShortest;
    }

    public int replays() {
        Play play = latest.play;
        if (play.length == NONE || story.goal.count == 0) {
            return NONE;
        }
        replayed.start(story.cells.firstWorld);
        for (int i = 0; i < play.length; i++) {
            if (!story.tries(play.moveAt(i), replayed)) {
                return 0;
            }
            replayed.become(story.outcome);
        }
        return story.isGoal(replayed, true) ? 1 : 0;
    }

    public int node(int node, int what) {
        return latest.nodes.has(node) ? latest.nodes.tell(node, what) : NONE;
    }

    public int meet(int a, int b) {
        Nodes nodes = latest.nodes;
        if (!nodes.has(a) || !nodes.has(b)) {
            return NONE;
        }
        return nodes.worlds[a] == nodes.worlds[b] ? 1 : 0;
    }

    public boolean seen(int text) {
        return isText(text) && hasBit(latest.seenTexts, text);
    }

    public int never(int k) {
        int unseen = latest.knownTexts & ~latest.seenTexts;
        int left = k;
        for (int text = 0; text < TEXTS; text++) {
            if (hasBit(unseen, text)) {
                if (left == 0) {
                    return text;
                }
                left--;
            }
        }
        return NONE;
    }

    public int queue(int i) throws ArrayIndexOutOfBoundsException {
        if (!isWithin(i, 0, latest.takenCount - 1)) {
            throw new ArrayIndexOutOfBoundsException("no node was taken as this one");
        }
        return latest.queue[i];
    }

    public void begin() {
        present.start(story.cells.firstWorld);
    }

    public int step(int step) {
        if (!story.hasStep(step)) {
            return NONE;
        }
        if (!story.tries(step, present)) {
            return 0;
        }
        present.become(story.outcome);
        return 1;
    }

    public int now(int what) {
        switch (what) {
            case 0:
                return story.cells.score(present.world);
            case 1:
                return present.ending;
            case 2:
                return story.countSteps(present);
            case 3:
                return story.goal.count > 0 && story.isGoal(present, false) ? 1 : 0;
            default:
                return valueAsked(present.world, what, story.cells.count);
        }
    }

    public int told(int what) {
        switch (what) {
            case 0:
                return story.cells.count;
            case 1:
                return story.moves.count;
            case 2:
                return story.macros.count;
            case 3:
                return story.goal.count;
            case 4:
                return story.macros.draftSize;
            case 5:
                return latest.nodes.count;
            case 6:
                return latest.takenCount;
            case 7:
                return latest.nodes.deadCount;
            default:
                return NONE;
        }
    }

    private static boolean isWithin(int number, int least, int most) {
        return least <= number && number <= most;
    }

    private static boolean isValue(int number) {
        return isWithin(number, 0, VALUES - 1);
    }

    private static boolean isText(int number) {
        return isWithin(number, 0, TEXTS - 1);
    }

    private static boolean hasBit(int bits, int place) {
        return (bits >>> place & 1) == 1;
    }

    private static int valueIn(long world, int cell) {
        return (int) (world >>> CELL_BITS * cell & CELL_MASK);
    }

    private static long withValue(long world, int cell, int value) {
        long others = ~(CELL_MASK << CELL_BITS * cell);
        return world & others | (long) value << CELL_BITS * cell;
    }

    private static int valueAsked(long world, int what, int cellCount) {
        boolean isCell = isWithin(what, FIRST_CELL_ASKED, FIRST_CELL_ASKED + cellCount - 1);
        return isCell ? valueIn(world, what - FIRST_CELL_ASKED) : NONE;
    }

    /** The CELLS that there are. */
    private static final class Cells {
        final int[] weights = new int[MOST_CELLS];
        int count;
        long firstWorld;
        long notClocks;
        boolean hasClock;

        boolean has(int cell) {
            return isWithin(cell, 0, count - 1);
        }

        int add(int first, boolean isClock) {
            firstWorld = withValue(firstWorld, count, first);
            if (isClock) {
                hasClock = true;
            } else {
                notClocks |= CELL_MASK << CELL_BITS * count;
            }
            return count++;
        }

        int score(long world) {
            int sum = 0;
            for (int cell = 0; cell < count; cell++) {
                sum += valueIn(world, cell) * weights[cell];
            }
            return sum;
        }
    }

    /** A WORLD on the way of a play, and what the MOVES that led to it have shown. */
    private static final class Moment {
        long world;
        int ending;
        int lastText = NONE;
        int shownTexts;

        void start(long first) {
            world = first;
            ending = 0;
            lastText = NONE;
            shownTexts = 0;
        }

        void become(Moment other) {
            world = other.world;
            ending = other.ending;
            lastText = other.lastText;
            shownTexts = other.shownTexts;
        }

        void hear(int text) {
            lastText = text;
            if (text != NONE) {
                shownTexts |= 1 << text;
            }
        }
    }

    /** The MOVES; the CONDITIONS and EFFECTS of all stand in common rows, six places a MOVE. */
    private static final class Moves {
        private static final int IS = 0;
        private static final int IS_NOT = 1;
        private static final int IS_BELOW = 2;
        private static final int IS_ABOVE = 3;

        private static final int BECOMES = 0;
        private static final int GAINS = 1;
        private static final int COPIES = 2;
        private static final int DRAWS = 3;

        private static final long CHANCE_FACTOR = 131;
        private static final long CHANCE_MODULUS = 2147483647;

        final int[] texts = new int[MOST_MOVES];
        final int[] endings = new int[MOST_MOVES];
        int count;

        private final int[] conditionCounts = new int[MOST_MOVES];
        private final int[] conditionCells = new int[MOST_MOVES * MOST_CONDITIONS];
        private final int[] conditionRelations = new int[MOST_MOVES * MOST_CONDITIONS];
        private final int[] conditionValues = new int[MOST_MOVES * MOST_CONDITIONS];
        private final int[] effectCounts = new int[MOST_MOVES];
        private final int[] effectKinds = new int[MOST_MOVES * MOST_EFFECTS];
        private final int[] effectCells = new int[MOST_MOVES * MOST_EFFECTS];
        private final int[] effectValues = new int[MOST_MOVES * MOST_EFFECTS];

        static boolean isRelation(int relation) {
            return isWithin(relation, IS, IS_ABOVE);
        }

        static boolean isEffect(int kind, int v, int cellCount) {
            switch (kind) {
                case BECOMES:
                    return isValue(v);
                case GAINS:
                    return isWithin(v, 1 - VALUES, VALUES - 1);
                case COPIES:
                    return isWithin(v, 0, cellCount - 1);
                case DRAWS:
                    return isWithin(v, 1, VALUES);
                default:
                    return false;
            }
        }

        boolean has(int move) {
            return isWithin(move, 0, count - 1);
        }

        int add() {
            texts[count] = NONE;
            return count++;
        }

        boolean addCondition(int move, int cell, int relation, int v) {
            if (conditionCounts[move] >= MOST_CONDITIONS) {
                return false;
            }
            int place = move * MOST_CONDITIONS + conditionCounts[move];
            conditionCells[place] = cell;
            conditionRelations[place] = relation;
            conditionValues[place] = v;
            conditionCounts[move]++;
            return true;
        }

        boolean addEffect(int move, int kind, int cell, int v) {
            if (effectCounts[move] >= MOST_EFFECTS) {
                return false;
            }
            int place = move * MOST_EFFECTS + effectCounts[move];
            effectKinds[place] = kind;
            effectCells[place] = cell;
            effectValues[place] = v;
            effectCounts[move]++;
            return true;
        }

        int textsOfAll() {
            int bits = 0;
            for (int move = 0; move < count; move++) {
                if (texts[move] != NONE) {
                    bits |= 1 << texts[move];
                }
            }
            return bits;
        }

        boolean carryOut(int move, Moment moment, int cellCount) {
            if (moment.ending != 0 || !conditionsHold(move, moment.world)) {
                return false;
            }
            moment.world = behindEffects(move, moment.world, cellCount);
            moment.ending = endings[move];
            moment.hear(texts[move]);
            return true;
        }

        private boolean conditionsHold(int move, long world) {
            int start = move * MOST_CONDITIONS;
            for (int place = start; place < start + conditionCounts[move]; place++) {
                int value = valueIn(world, conditionCells[place]);
                if (!holds(value, conditionRelations[place], conditionValues[place])) {
                    return false;
                }
            }
            return true;
        }

        private static boolean holds(int value, int relation, int v) {
            switch (relation) {
                case IS:
                    return value == v;
                case IS_NOT:
                    return value != v;
                case IS_BELOW:
                    return value < v;
                default:
                    return value > v;
            }
        }

        private long behindEffects(int move, long ahead, int cellCount) {
            long world = ahead;
            int start = move * MOST_EFFECTS;
            for (int place = start; place < start + effectCounts[move]; place++) {
                int cell = effectCells[place];
                int v = effectValues[place];
                int value;
                switch (effectKinds[place]) {
                    case BECOMES:
                        value = v;
                        break;
                    case GAINS:
                        value = Math.floorMod(valueIn(world, cell) + v, VALUES);
                        break;
                    case COPIES:
                        value = valueIn(world, v);
                        break;
                    default:
                        // the tape is of the WORLD ahead of all EFFECTS, not of what they left
                        value = v > 0 ? chance(move, ahead, cellCount) % v : 0;
                        break;
                }
                world = withValue(world, cell, value);
            }
            return world;
        }

        private static int chance(int move, long world, int cellCount) {
            long h = 0;
            for (int cell = 0; cell < cellCount; cell++) {
                h = (CHANCE_FACTOR * h + valueIn(world, cell) + 1) % CHANCE_MODULUS;
            }
            return (int) ((CHANCE_FACTOR * h + move + 1) % CHANCE_MODULUS);
        }
    }

    /** The MACROS and the draft of the next one; a STEP is told here as the row of its MOVES. */
    private static final class Macros {
        int count;
        int draftSize;

        private final int[] draft = new int[MOST_IN_MACRO];
        private final int[] sizes = new int[MOST_MACROS];
        private final int[] rows = new int[MOST_MACROS * MOST_IN_MACRO];

        int addToDraft(int move) {
            if (draftSize >= MOST_IN_MACRO) {
                return NONE;
            }
            draft[draftSize++] = move;
            return draftSize;
        }

        int addDraft() {
            if (draftSize < LEAST_IN_MACRO || count >= MOST_MACROS) {
                return NONE;
            }
            System.arraycopy(draft, 0, rows, count * MOST_IN_MACRO, draftSize);
            sizes[count] = draftSize;
            draftSize = 0;
            return count++;
        }

        int sizeOf(int step) {
            return step < FIRST_MACRO ? 1 : sizes[step - FIRST_MACRO];
        }

        int moveOf(int step, int i) {
            return step < FIRST_MACRO ? step : rows[(step - FIRST_MACRO) * MOST_IN_MACRO + i];
        }
    }

    /** THE GOAL. */
    private static final class Goal {
        private static final int CELL_HAS = 0;
        private static final int SCORE_REACHES = 1;
        private static final int TEXT_IS = 2;
        private static final int ENDING_IS = 3;

        int count;

        private final int[] kinds = new int[MOST_GOALS];
        private final int[] firsts = new int[MOST_GOALS];
        private final int[] seconds = new int[MOST_GOALS];

        static boolean isPart(int kind, int a, int b, int cellCount) {
            switch (kind) {
                case CELL_HAS:
                    return isWithin(a, 0, cellCount - 1) && isValue(b);
                case SCORE_REACHES:
                    return true;
                case TEXT_IS:
                    return isText(a);
                case ENDING_IS:
                    return isWithin(a, 1, MOST_ENDING);
                default:
                    return false;
            }
        }

        int add(int kind, int a, int b) {
            if (count >= MOST_GOALS) {
                return NONE;
            }
            kinds[count] = kind;
            firsts[count] = a;
            seconds[count] = b;
            return ++count;
        }

        boolean isMet(Moment moment, int score, boolean withTexts) {
            for (int part = 0; part < count; part++) {
                if (!isPartMet(part, moment, score, withTexts)) {
                    return false;
                }
            }
            return true;
        }

        private boolean isPartMet(int part, Moment moment, int score, boolean withTexts) {
            int a = firsts[part];
            switch (kinds[part]) {
                case CELL_HAS:
                    return valueIn(moment.world, a) == seconds[part];
                case SCORE_REACHES:
                    return score >= a;
                case TEXT_IS:
                    return !withTexts || moment.lastText == a;
                default:
                    return moment.ending == a;
            }
        }
    }

    /** All that was made of a story, and how its STEPS are tried. */
    private static final class Story {
        final Cells cells = new Cells();
        final Moves moves = new Moves();
        final Macros macros = new Macros();
        final Goal goal = new Goal();

        /** What came of the STEP tried last, if it could be done. */
        final Moment outcome = new Moment();

        int stepCount() {
            return moves.count + macros.count;
        }

        int stepBy(int place) {
            return place < moves.count ? place : FIRST_MACRO + place - moves.count;
        }

        boolean hasStep(int number) {
            return moves.has(number)
                    || isWithin(number, FIRST_MACRO, FIRST_MACRO + macros.count - 1);
        }

        /** Leaves the moment alone, since a MACRO may turn out impossible half way through. */
        boolean tries(int step, Moment moment) {
            outcome.become(moment);
            int size = macros.sizeOf(step);
            for (int i = 0; i < size; i++) {
                if (!moves.carryOut(macros.moveOf(step, i), outcome, cells.count)) {
                    return false;
                }
            }
            return true;
        }

        int countSteps(Moment moment) {
            int possible = 0;
            for (int place = 0; place < stepCount(); place++) {
                if (tries(stepBy(place), moment)) {
                    possible++;
                }
            }
            return possible;
        }

        boolean isGoal(Moment moment, boolean withTexts) {
            return goal.isMet(moment, cells.score(moment.world), withTexts);
        }
    }

    /** The NODES of a SEARCH, each found again by what makes WORLDS ALIKE. */
    private static final class Nodes {
        /** Well above the NODES that there can be, so that an empty slot is always near. */
        private static final int SLOTS = 4096;
        private static final int SLOT_SHIFT = 52;
        private static final int ENDING_SHIFT = CELL_BITS * MOST_CELLS;
        private static final long SPREAD = 0x9E3779B97F4A7C15L;

        final long[] worlds = new long[MOST_NODES];
        final int[] befores = new int[MOST_NODES];
        final int[] steps = new int[MOST_NODES];
        final int[] depths = new int[MOST_NODES];
        int count;
        int deadCount;

        private final int[] endings = new int[MOST_NODES];
        private final int[] scores = new int[MOST_NODES];
        private final boolean[] taken = new boolean[MOST_NODES];
        private final boolean[] dead = new boolean[MOST_NODES];
        private final int[] slots = new int[SLOTS];
        private int cellCount;
        private long notClocks;

        boolean has(int number) {
            return isWithin(number, 0, count - 1);
        }

        void startWith(Cells cells) {
            Arrays.fill(slots, NONE);
            count = 0;
            deadCount = 0;
            cellCount = cells.count;
            notClocks = cells.notClocks;
        }

        void add(int before, int step, Moment moment, int score) {
            int slot = slotFor(moment);
            if (slots[slot] == NONE) {
                slots[slot] = count;
            }
            worlds[count] = moment.world;
            endings[count] = moment.ending;
            befores[count] = before;
            steps[count] = step;
            depths[count] = before == NONE ? 0 : depths[before] + 1;
            scores[count] = score;
            taken[count] = false;
            dead[count] = false;
            count++;
        }

        boolean hasAlike(Moment moment) {
            return slots[slotFor(moment)] != NONE;
        }

        /** The slot of a NODE ALIKE and ended alike, or the empty one where it would stand. */
        private int slotFor(Moment moment) {
            long key = moment.world & notClocks | (long) moment.ending << ENDING_SHIFT;
            int slot = (int) (key * SPREAD >>> SLOT_SHIFT);
            for (int looked = 0; looked < SLOTS; looked++) {
                int there = slots[slot];
                if (there == NONE || isAlike(there, moment)) {
                    return slot;
                }
                slot = (slot + 1) % SLOTS;
            }
            return slot;
        }

        private boolean isAlike(int number, Moment moment) {
            return ((worlds[number] ^ moment.world) & notClocks) == 0
                    && endings[number] == moment.ending;
        }

        private boolean isOpen(int number) {
            return !taken[number] && endings[number] == 0;
        }

        int leastOpen(int from) {
            for (int number = from; number < count; number++) {
                if (isOpen(number)) {
                    return number;
                }
            }
            return NONE;
        }

        int bestOpen() {
            int best = NONE;
            for (int number = 0; number < count; number++) {
                if (isOpen(number) && (best == NONE || scores[number] > scores[best])) {
                    best = number;
                }
            }
            return best;
        }

        void take(int number) {
            taken[number] = true;
        }

        void markDead(int number) {
            dead[number] = true;
            deadCount++;
        }

        int tell(int number, int what) {
            switch (what) {
                case 0:
                    return befores[number];
                case 1:
                    return steps[number];
                case 2:
                    return scores[number];
                case 3:
                    return endings[number];
                case 4:
                    return taken[number] ? 1 : 0;
                case 5:
                    return dead[number] ? 1 : 0;
                case 6:
                    return depths[number];
                default:
                    return valueAsked(worlds[number], what, cellCount);
            }
        }
    }

    /** The MOVES of the play FOUND; they stand at the end of the row, as they are told backwards. */
    private static final class Play {
        int length = NONE;

        private final int[] moves = new int[MOST_NODES * MOST_IN_MACRO];
        private int start;

        void forget() {
            length = NONE;
        }

        void take(Nodes nodes, int last, Macros macros) {
            start = moves.length;
            int node = last;
            for (int left = nodes.depths[last]; left > 0; left--) {
                int step = nodes.steps[node];
                int size = macros.sizeOf(step);
                start -= size;
                for (int i = 0; i < size; i++) {
                    moves[start + i] = macros.moveOf(step, i);
                }
                node = nodes.befores[node];
            }
            length = moves.length - start;
        }

        int moveAt(int i) {
            return isWithin(i, 0, length - 1) ? moves[start + i] : NONE;
        }
    }

    /** The latest SEARCH: it keeps what it told, whatever becomes of the story later. */
    private static final class Search {
        final Nodes nodes = new Nodes();
        final Play play = new Play();
        final int[] queue = new int[MOST_NODES];
        int takenCount;
        int seenTexts;
        int knownTexts;
        boolean isShortest;

        private final Moment here = new Moment();

        int run(Story story, boolean byBest, int allowed) {
            startWith(story);
            int result = GOES_ON;
            int node = 0;
            // one turn more than there can be NODES: the last one finds that none is OPEN
            for (int turn = 0; turn <= MOST_NODES && result == GOES_ON; turn++) {
                // in BREADTH all NODES below the one taken last are closed
                node = byBest ? nodes.bestOpen() : nodes.leastOpen(node);
                result = node == NONE ? NONE_LEFT : takeNode(story, node, allowed);
            }
            if (result == FOUND) {
                play.take(nodes, nodes.count - 1, story.macros);
                isShortest = !byBest && !story.cells.hasClock;
            }
            return result;
        }

        private void startWith(Story story) {
            play.forget();
            takenCount = 0;
            seenTexts = 0;
            knownTexts = story.moves.textsOfAll();
            isShortest = false;
            here.start(story.cells.firstWorld);
            nodes.startWith(story.cells);
            nodes.add(NONE, NONE, here, story.cells.score(here.world));
        }

        private int takeNode(Story story, int node, int allowed) {
            nodes.take(node);
            queue[takenCount++] = node;
            here.start(nodes.worlds[node]);
            boolean isDead = true;
            for (int place = 0; place < story.stepCount(); place++) {
                int step = story.stepBy(place);
                if (story.tries(step, here)) {
                    isDead = false;
                    int result = takeOutcome(story, node, step, allowed);
                    if (result != GOES_ON) {
                        return result;
                    }
                }
            }
            if (isDead) {
                nodes.markDead(node);
            }
            return GOES_ON;
        }

        private int takeOutcome(Story story, int before, int step, int allowed) {
            Moment outcome = story.outcome;
            seenTexts |= outcome.shownTexts;
            int score = story.cells.score(outcome.world);
            boolean isGoal = story.goal.isMet(outcome, score, true);
            if (!isGoal && nodes.hasAlike(outcome)) {
                return GOES_ON;
            }
            if (nodes.count >= allowed) {
                return SPENT;
            }
            nodes.add(before, step, outcome, score);
            return isGoal ? FOUND : GOES_ON;
        }
    }
}
