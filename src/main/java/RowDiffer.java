/**
 * Compares rows of numbers, merges what two sides made of the same row, and puts scripts to work
 * forwards and backwards.
 */
public final class RowDiffer {
    private static final int ROWS = 8;
    private static final int MOST_NUMBERS = 120;
    private static final int MOST_COST = 100;
    /** Every step does at least one place of one of two rows. */
    private static final int MOST_STEPS = 2 * MOST_NUMBERS;
    /** Every entry comes from a place of base, of left or of right. */
    private static final int MOST_ENTRIES = 3 * MOST_NUMBERS;

    /** The count of a script or merge that has not been made yet. */
    private static final int NOT_MADE = -1;

    private static final int KEEP = 0;
    private static final int ERASE = 1;
    private static final int INSERT = 2;

    private static final int NOBODY = 0;
    private static final int LEFT = 1;
    private static final int RIGHT = 2;
    private static final int BOTH = 3;

    private static final int NO_PLACE = -1;

    private final Row[] rows;
    private final Comparison comparison;
    private final Script lastScript;
    /** Apart from lastScript, because a merge must leave that one as it is. */
    private final Script leftScript;
    private final Script rightScript;
    private final Merge lastMerge;

    public RowDiffer() {
        rows = new Row[ROWS];
        for (int row = 0; row < ROWS; row++) {
            rows[row] = new Row();
        }
        comparison = new Comparison();
        lastScript = new Script();
        leftScript = new Script();
        rightScript = new Script();
        lastMerge = new Merge();
    }

    public int add(int row, int v) {
        if (!isRow(row) || rows[row].count >= MOST_NUMBERS) {
            return -1;
        }
        rows[row].append(v);
        return rows[row].count;
    }

    public int wipe(int row) {
        if (!isRow(row)) {
            return -1;
        }
        int before = rows[row].count;
        rows[row].empty();
        return before;
    }

    public int length(int row) {
        return isRow(row) ? rows[row].count : -1;
    }

    public int number(int row, int place) throws IndexOutOfBoundsException {
        Row found = existingRow(row);
        if (place < 0 || place >= found.count) {
            throw new IndexOutOfBoundsException("no such place");
        }
        return found.numbers[place];
    }

    public int diff(int a, int b) throws IndexOutOfBoundsException, IllegalStateException {
        Row from = existingRow(a);
        Row to = existingRow(b);
        int cost = comparison.compare(from, to, lastScript);
        if (cost > MOST_COST) {
            throw new IllegalStateException("the script costs too much");
        }
        return cost;
    }

    public int steps() {
        return lastScript.count;
    }

    public int step(int k, int what) throws IndexOutOfBoundsException, IllegalArgumentException {
        if (k < 0 || k >= lastScript.count) {
            throw new IndexOutOfBoundsException("no such step");
        }
        switch (what) {
            case 0:
                return lastScript.kinds[k];
            case 1:
                return lastScript.fromPlaces[k];
            case 2:
                return lastScript.toPlaces[k];
            case 3:
                return lastScript.numbers[k];
            default:
                throw new IllegalArgumentException("a step has no such property");
        }
    }

    public int hunks() {
        return lastScript.count == NOT_MADE ? -1 : lastScript.countHunks();
    }

    public int hunk(int k, int what) throws IndexOutOfBoundsException, IllegalArgumentException {
        int first = lastScript.firstStepOfHunk(k);
        if (first < 0 || first >= lastScript.count) {
            throw new IndexOutOfBoundsException("no such hunk");
        }
        switch (what) {
            case 0:
                return lastScript.fromPlaces[first];
            case 1:
                return lastScript.toPlaces[first];
            case 2:
                return lastScript.countInHunk(first, ERASE);
            case 3:
                return lastScript.countInHunk(first, INSERT);
            default:
                throw new IllegalArgumentException("a hunk has no such property");
        }
    }

    public int apply(int row, int into, boolean back) throws IndexOutOfBoundsException, IllegalStateException {
        Row source = existingRow(row);
        Row target = existingRow(into);
        if (lastScript.count == NOT_MADE) {
            throw new IllegalStateException("there is no script");
        }
        int foreignToSource = back ? ERASE : INSERT;
        int foreignToTarget = back ? INSERT : ERASE;
        if (!lastScript.spells(source, foreignToSource)) {
            throw new IllegalStateException("the script is not for this row");
        }
        lastScript.spellInto(target, foreignToTarget);
        return target.count;
    }

    public int merge(int base, int left, int right) throws IndexOutOfBoundsException, IllegalStateException {
        Row common = existingRow(base);
        Row leftRow = existingRow(left);
        Row rightRow = existingRow(right);
        if (comparison.compare(common, leftRow, leftScript) > MOST_COST
                || comparison.compare(common, rightRow, rightScript) > MOST_COST) {
            throw new IllegalStateException("a script of the merge costs too much");
        }
        lastMerge.make(common, leftScript, rightScript);
        return lastMerge.count;
    }

    public int entry(int k, int what) throws IndexOutOfBoundsException, IllegalArgumentException {
        if (k < 0 || k >= lastMerge.count) {
            throw new IndexOutOfBoundsException("no such entry");
        }
        switch (what) {
            case 0:
                return lastMerge.numbers[k];
            case 1:
                return lastMerge.inserters[k];
            case 2:
                return lastMerge.erasers[k];
            case 3:
                return lastMerge.basePlaces[k];
            default:
                throw new IllegalArgumentException("an entry has no such property");
        }
    }

    public int conflicts() {
        return lastMerge.count == NOT_MADE ? -1 : lastMerge.conflictCount;
    }

    public int see(int sides, int into)
            throws IndexOutOfBoundsException, IllegalArgumentException, IllegalStateException {
        Row target = existingRow(into);
        if (sides < NOBODY || sides > BOTH) {
            throw new IllegalArgumentException("no such set of sides");
        }
        if (lastMerge.count == NOT_MADE) {
            throw new IllegalStateException("there is no merge");
        }
        if (lastMerge.countSeen(sides) > MOST_NUMBERS) {
            throw new IllegalStateException("the row would have too many numbers");
        }
        lastMerge.showInto(target, sides);
        return target.count;
    }

    private static boolean isRow(int row) {
        return row >= 0 && row < ROWS;
    }

    private Row existingRow(int row) {
        if (!isRow(row)) {
            throw new IndexOutOfBoundsException("no such row");
        }
        return rows[row];
    }

    private static final class Row {
        private final int[] numbers = new int[MOST_NUMBERS];
        private int count = 0;

        void empty() {
            count = 0;
        }

        void append(int v) {
            if (count < MOST_NUMBERS) {
                numbers[count] = v;
                count++;
            }
        }
    }

    /** Steps with copies of their numbers, so that a script outlives changes of the rows. */
    private static final class Script {
        private final int[] kinds = new int[MOST_STEPS];
        private final int[] fromPlaces = new int[MOST_STEPS];
        private final int[] toPlaces = new int[MOST_STEPS];
        private final int[] numbers = new int[MOST_STEPS];
        private int count = NOT_MADE;

        void begin() {
            count = 0;
        }

        void append(int kind, int fromPlace, int toPlace, int v) {
            if (count >= 0 && count < MOST_STEPS) {
                kinds[count] = kind;
                fromPlaces[count] = fromPlace;
                toPlaces[count] = toPlace;
                numbers[count] = v;
                count++;
            }
        }

        int countHunks() {
            int found = 0;
            for (int k = 0; k < count; k++) {
                if (opensHunk(k)) {
                    found++;
                }
            }
            return found;
        }

        /** -1 if there is no such hunk. */
        int firstStepOfHunk(int wanted) {
            int found = 0;
            for (int k = 0; k < count; k++) {
                if (opensHunk(k)) {
                    if (found == wanted) {
                        return k;
                    }
                    found++;
                }
            }
            return -1;
        }

        int countInHunk(int first, int kind) {
            int found = 0;
            for (int k = first; k < count && kinds[k] != KEEP; k++) {
                if (kinds[k] == kind) {
                    found++;
                }
            }
            return found;
        }

        /** Where the INSERTs end that begin at a step: the step itself if it is none. */
        int endOfInserts(int first) {
            int end = first;
            while (end < count && kinds[end] == INSERT) {
                end++;
            }
            return end;
        }

        boolean erasesAt(int k) {
            return k < count && kinds[k] == ERASE;
        }

        /** Whether the steps, but for those of the kind foreign to it, are the row number by number. */
        boolean spells(Row row, int foreign) {
            int place = 0;
            for (int k = 0; k < count; k++) {
                if (kinds[k] != foreign) {
                    if (place >= row.count || row.numbers[place] != numbers[k]) {
                        return false;
                    }
                    place++;
                }
            }
            return place == row.count;
        }

        void spellInto(Row row, int foreign) {
            row.empty();
            for (int k = 0; k < count; k++) {
                if (kinds[k] != foreign) {
                    row.append(numbers[k]);
                }
            }
        }

        private boolean opensHunk(int k) {
            return kinds[k] != KEEP && (k == 0 || kinds[k - 1] == KEEP);
        }
    }

    /** Finds the script between two rows; its tables are made once and serve every comparison. */
    private static final class Comparison {
        private static final int WORD_SHIFT = 6;
        private static final int WORD_MASK = 63;
        private static final int WORDS_PER_PLACE = (MOST_NUMBERS >> WORD_SHIFT) + 1;

        /** The least cost of the rest from one place i and every place j. */
        private final int[] restCosts = new int[MOST_NUMBERS + 1];
        /** A bit for each i and j, because a table of all costs would fill the room many times faster. */
        private final long[] eraseBits = new long[MOST_NUMBERS * WORDS_PER_PLACE];

        /** The cost; the script is written only if that is not above the limit. */
        int compare(Row from, Row to, Script script) {
            int cost = findLeastCost(from, to);
            if (cost <= MOST_COST) {
                writeScript(from, to, script);
            }
            return cost;
        }

        private int findLeastCost(Row from, Row to) {
            for (int j = 0; j <= to.count; j++) {
                restCosts[j] = to.count - j;
            }
            for (int i = from.count - 1; i >= 0; i--) {
                moveCostsBackTo(i, from.numbers[i], to);
            }
            return restCosts[0];
        }

        /** Turns the costs from place i + 1 into those from place i, where v stands. */
        private void moveCostsBackTo(int i, int v, Row to) {
            int afterKeep = restCosts[to.count];
            restCosts[to.count] = afterKeep + 1;
            for (int j = to.count - 1; j >= 0; j--) {
                int afterErase = restCosts[j];
                int afterInsert = restCosts[j + 1];
                markErase(i, j, afterErase <= afterInsert);
                // A KEEP never costs more than the other ways, so these need no look where it can be.
                restCosts[j] = v == to.numbers[j] ? afterKeep : 1 + Math.min(afterErase, afterInsert);
                afterKeep = afterErase;
            }
        }

        private void writeScript(Row from, Row to, Script script) {
            int i = 0;
            int j = 0;
            script.begin();
            for (int done = 0; done < MOST_STEPS && (i < from.count || j < to.count); done++) {
                if (i < from.count && j < to.count && from.numbers[i] == to.numbers[j]) {
                    script.append(KEEP, i, j, from.numbers[i]);
                    i++;
                    j++;
                } else if (i < from.count && (j >= to.count || isEraseMarked(i, j))) {
                    script.append(ERASE, i, j, from.numbers[i]);
                    i++;
                } else {
                    script.append(INSERT, i, j, to.numbers[j]);
                    j++;
                }
            }
        }

        private void markErase(int i, int j, boolean isBest) {
            int word = wordOf(i, j);
            long bit = 1L << (j & WORD_MASK);
            eraseBits[word] = isBest ? eraseBits[word] | bit : eraseBits[word] & ~bit;
        }

        private boolean isEraseMarked(int i, int j) {
            return (eraseBits[wordOf(i, j)] & (1L << (j & WORD_MASK))) != 0;
        }

        private static int wordOf(int i, int j) {
            return i * WORDS_PER_PLACE + (j >> WORD_SHIFT);
        }
    }

    /** Entries with copies of their numbers, so that a merge outlives changes of the rows. */
    private static final class Merge {
        private final int[] numbers = new int[MOST_ENTRIES];
        private final int[] inserters = new int[MOST_ENTRIES];
        private final int[] erasers = new int[MOST_ENTRIES];
        private final int[] basePlaces = new int[MOST_ENTRIES];
        private int count = NOT_MADE;
        private int conflictCount = 0;

        void make(Row base, Script left, Script right) {
            int leftStep = 0;
            int rightStep = 0;
            count = 0;
            conflictCount = 0;
            for (int p = 0; p <= base.count; p++) {
                int leftEnd = left.endOfInserts(leftStep);
                int rightEnd = right.endOfInserts(rightStep);
                int same = appendCommon(left, leftStep, leftEnd, right, rightStep, rightEnd);
                appendInserts(left, leftStep + same, leftEnd, LEFT);
                appendInserts(right, rightStep + same, rightEnd, RIGHT);
                if (leftStep + same < leftEnd && rightStep + same < rightEnd) {
                    conflictCount++;
                }
                if (p < base.count) {
                    int byLeft = left.erasesAt(leftEnd) ? LEFT : NOBODY;
                    int byRight = right.erasesAt(rightEnd) ? RIGHT : NOBODY;
                    append(base.numbers[p], NOBODY, byLeft | byRight, p);
                }
                // Behind the INSERTs stands the one step that does the place p of base.
                leftStep = leftEnd + 1;
                rightStep = rightEnd + 1;
            }
        }

        int countSeen(int sides) {
            int seen = 0;
            for (int k = 0; k < count; k++) {
                if (isSeen(k, sides)) {
                    seen++;
                }
            }
            return seen;
        }

        void showInto(Row row, int sides) {
            row.empty();
            for (int k = 0; k < count; k++) {
                if (isSeen(k, sides)) {
                    row.append(numbers[k]);
                }
            }
        }

        private boolean isSeen(int k, int sides) {
            boolean isThere = inserters[k] == NOBODY || (inserters[k] & sides) != 0;
            return isThere && (erasers[k] & sides) == 0;
        }

        /** How many INSERTs at the beginnings of the two runs are the same. */
        private int appendCommon(Script left, int leftStep, int leftEnd, Script right, int rightStep, int rightEnd) {
            int most = Math.min(leftEnd - leftStep, rightEnd - rightStep);
            int same = 0;
            while (same < most && left.numbers[leftStep + same] == right.numbers[rightStep + same]) {
                append(left.numbers[leftStep + same], BOTH, NOBODY, NO_PLACE);
                same++;
            }
            return same;
        }

        private void appendInserts(Script script, int first, int end, int side) {
            for (int k = first; k < end; k++) {
                append(script.numbers[k], side, NOBODY, NO_PLACE);
            }
        }

        private void append(int v, int insertedBy, int erasedBy, int basePlace) {
            if (count >= 0 && count < MOST_ENTRIES) {
                numbers[count] = v;
                inserters[count] = insertedBy;
                erasers[count] = erasedBy;
                basePlaces[count] = basePlace;
                count++;
            }
        }
    }
}
