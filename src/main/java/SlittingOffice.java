/** An office for slitting metal coils. */
public final class SlittingOffice {
    /** There is none. */
    public static final int NONE = -1;

    private static final int MOST_COILS = 20;
    private static final int LEAST_COIL_WIDTH = 100;
    private static final int MOST_COIL_WIDTH = 2000;
    private static final int MOST_COIL_WEIGHT = 30000;
    private static final int LEAST_LENGTH = 10;
    private static final int MOST_LENGTH = 5000;
    private static final int MOST_HEAT = 99;
    private static final int MOST_DEFECTS = 8;

    private static final int MOST_EDGE = 100;
    private static final int MOST_LOSS = 500;
    private static final int LEAST_KNIVES = 2;
    private static final int MOST_KNIVES = 16;
    private static final int MOST_KNIVES_FOR_TRYING = 8;

    private static final int MOST_ORDERS = 12;
    private static final int MOST_ORDER_WEIGHT = 50000;

    private static final int LEAST_SLIT_WIDTH = 20;
    private static final int MOST_SLIT_WIDTH = 1000;
    private static final int MOST_SLITS = 15;
    private static final int MOST_PATTERNS = 10;

    private static final int MOST_WAITING = 7;

    private static final int INNER_TURNS = 0;
    private static final int CUT_OUT = 1;
    private static final int TRIM = 2;

    private final Coil[] coils = new Coil[MOST_COILS];
    private int coilCount = 0;
    private final Order[] orders = new Order[MOST_ORDERS];
    private int orderCount = 0;
    private final Pattern[] patterns = new Pattern[MOST_PATTERNS];
    private int patternCount = 0;
    private final Pattern draft = new Pattern();

    private int edge = 10;
    private int loss = 20;
    private int knives = 8;

    private int setup = NONE;
    private int movedKnives = 0;

    private final int[] waitingCoils = new int[MOST_WAITING];
    private final int[] waitingPatterns = new int[MOST_WAITING];
    private int waitingCount = 0;

    private final Filling filling = new Filling();
    private final RunOrder runOrder = new RunOrder();

    /** Makes all rows at once, so that no later call makes an object. */
    public SlittingOffice() {
        for (int i = 0; i < coils.length; i++) {
            coils[i] = new Coil();
        }
        for (int i = 0; i < orders.length; i++) {
            orders[i] = new Order();
        }
        for (int i = 0; i < patterns.length; i++) {
            patterns[i] = new Pattern();
        }
    }

    // ---- coils and rules

    /** Adds a coil; returns its number. */
    public int coil(int width, int weight, int length, int heat)
            throws IllegalArgumentException, IllegalStateException {
        requireRange(width, LEAST_COIL_WIDTH, MOST_COIL_WIDTH);
        requireRange(weight, 1, MOST_COIL_WEIGHT);
        requireRange(length, LEAST_LENGTH, MOST_LENGTH);
        requireRange(heat, 1, MOST_HEAT);
        if (coilCount >= coils.length) {
            throw new IllegalStateException("no more coils");
        }
        coils[coilCount].describe(width, weight, length, heat);
        coilCount++;
        return coilCount - 1;
    }

    /** Adds a defect to a coil; returns the cut-out length of the coil then. */
    public int defect(int coil, int from, int to)
            throws IndexOutOfBoundsException, IllegalArgumentException, IllegalStateException {
        requireCoil(coil);
        Coil damaged = coils[coil];
        requireRange(from, 0, damaged.length - 1);
        requireRange(to, from + 1, damaged.length);
        if (damaged.isSlit() || damaged.hasMostDefects()) {
            throw new IllegalStateException("the coil is slit or has no room for a defect");
        }
        damaged.addDefect(from, to);
        return damaged.cutOutLength();
    }

    /** Sets the rules; returns the edge before. */
    public int setRules(int edge, int loss, int knives) throws IllegalArgumentException {
        requireRange(edge, 0, MOST_EDGE);
        requireRange(loss, 0, MOST_LOSS);
        requireRange(knives, LEAST_KNIVES, MOST_KNIVES);
        int edgeBefore = this.edge;
        this.edge = edge;
        this.loss = loss;
        this.knives = knives;
        return edgeBefore;
    }

    // ---- orders and patterns

    /** Adds an order; returns its number. */
    public int order(int width, int weight) throws IllegalArgumentException, IllegalStateException {
        requireRange(width, LEAST_SLIT_WIDTH, MOST_SLIT_WIDTH);
        requireRange(weight, 1, MOST_ORDER_WEIGHT);
        if (orderCount >= orders.length) {
            throw new IllegalStateException("no more orders");
        }
        orders[orderCount].describe(width, weight);
        orderCount++;
        return orderCount - 1;
    }

    /** Adds a slit to the draft, at its right side; returns how many it has then. */
    public int addSlit(int width) throws IllegalArgumentException, IllegalStateException {
        requireRange(width, LEAST_SLIT_WIDTH, MOST_SLIT_WIDTH);
        if (draft.isFull()) {
            throw new IllegalStateException("the draft has no room for a slit");
        }
        draft.append(width);
        return draft.count;
    }

    /** Takes all slits out of the draft; returns how many there were. */
    public int clearDraft() {
        int before = draft.count;
        draft.empty();
        return before;
    }

    /** Returns how many slits the draft has. */
    public int draftSlits() {
        return draft.count;
    }

    /** Returns the width of a slit of the draft. */
    public int draftWidth(int slit) throws IndexOutOfBoundsException {
        if (!draft.hasSlitAt(slit)) {
            throw new IndexOutOfBoundsException("the draft has no such slit");
        }
        return draft.widths[slit];
    }

    /** Keeps the draft as a pattern, and empties it; returns the number of the pattern. */
    public int keep() throws IllegalStateException {
        if (draft.count == 0 || patternCount >= patterns.length) {
            throw new IllegalStateException("the draft is empty or there are no more patterns");
        }
        patterns[patternCount].becomeCopyOf(draft);
        draft.empty();
        patternCount++;
        return patternCount - 1;
    }

    /** Tells whether a pattern fits a coil. */
    public boolean fits(int pattern, int coil) throws IndexOutOfBoundsException {
        requirePattern(pattern);
        requireCoil(coil);
        return canBeCutFrom(patterns[pattern], coils[coil]);
    }

    /** Makes the fullest pattern for a coil the draft; returns its width together. */
    public int fill(int coil) throws IndexOutOfBoundsException {
        requireCoil(coil);
        offerWidthsFor(coils[coil]);
        int total = filling.greatestTotal(roomOf(coils[coil]), knives - 1);
        filling.layOut(total, draft);
        return total;
    }

    /** Returns the width that fill() would return, found by trying all patterns. */
    public int fullestByTrying(int coil) throws IndexOutOfBoundsException, IllegalStateException {
        requireCoil(coil);
        if (knives > MOST_KNIVES_FOR_TRYING) {
            throw new IllegalStateException("too many knives for trying");
        }
        offerWidthsFor(coils[coil]);
        return filling.greatestTotalByTrying(roomOf(coils[coil]), knives - 1);
    }

    // ---- running

    /** Slits a coil by a pattern; returns how many slits are delivered to orders. */
    public int run(int coil, int pattern) throws IndexOutOfBoundsException, IllegalStateException {
        requireCoil(coil);
        requirePattern(pattern);
        if (!canBeRun(coil, pattern)) {
            throw new IllegalStateException("the coil is slit or the pattern does not fit it");
        }
        return slitCoil(coil, pattern);
    }

    /** Returns how many knives are moved for a pattern now. */
    public int moves(int pattern) throws IndexOutOfBoundsException {
        requirePattern(pattern);
        return movesBetween(setup, pattern);
    }

    /** Returns how many knives have been moved by all runs. */
    public int moved() {
        return movedKnives;
    }

    // ---- waiting runs

    /** Lets a run wait; returns the number of the waiting run. */
    public int plan(int coil, int pattern) throws IndexOutOfBoundsException, IllegalStateException {
        requireCoil(coil);
        requirePattern(pattern);
        if (!canBeRun(coil, pattern) || coilWaits(coil) || waitingCount >= MOST_WAITING) {
            throw new IllegalStateException("the run can not wait");
        }
        waitingCoils[waitingCount] = coil;
        waitingPatterns[waitingCount] = pattern;
        waitingCount++;
        return waitingCount - 1;
    }

    /** Returns how many runs wait. */
    public int waiting() {
        return waitingCount;
    }

    /** Returns how many knives are moved in the best order, found by sets of runs. */
    public int fewestMoves() {
        readMoves();
        return runOrder.fewestBySets(waitingCount);
    }

    /** Returns how many knives are moved in the best order, found by trying all orders. */
    public int fewestByTrying() {
        readMoves();
        return runOrder.fewestByOrders(waitingCount);
    }

    /** Returns the number of the waiting run at a place of the best order. */
    public int nextAt(int place) throws IndexOutOfBoundsException {
        if (place < 0 || place >= waitingCount) {
            throw new IndexOutOfBoundsException("no such place");
        }
        readMoves();
        runOrder.findBest(waitingCount);
        return runOrder.best[place];
    }

    /** Runs all waiting runs in the best order; returns how many are run. */
    public int runAll() {
        readMoves();
        runOrder.findBest(waitingCount);
        int done = 0;
        for (int place = 0; place < waitingCount; place++) {
            int next = runOrder.best[place];
            if (canBeRun(waitingCoils[next], waitingPatterns[next])) {
                slitCoil(waitingCoils[next], waitingPatterns[next]);
                done++;
            }
        }
        waitingCount = 0;
        return done;
    }

    // ---- what became of coils and orders

    /** Returns how many slits a coil has; NONE if it is not slit. */
    public int slits(int coil) throws IndexOutOfBoundsException {
        requireCoil(coil);
        return coils[coil].slitCount;
    }

    /** Returns the weight of a slit. */
    public int slitWeight(int coil, int slit) throws IndexOutOfBoundsException {
        requireSlit(coil, slit);
        return coils[coil].slitWeights[slit];
    }

    /** Returns the order to which a slit was delivered; NONE if it went into the stock. */
    public int slitOrder(int coil, int slit) throws IndexOutOfBoundsException {
        requireSlit(coil, slit);
        return coils[coil].slitOrders[slit];
    }

    /** Returns a part of the weight of a coil that is not in slits. */
    public int lost(int coil, int part) throws IndexOutOfBoundsException, IllegalArgumentException {
        requireCoil(coil);
        requireRange(part, INNER_TURNS, TRIM);
        if (part == INNER_TURNS) {
            return coils[coil].innerTurns;
        }
        return part == CUT_OUT ? coils[coil].cutOut : coils[coil].trim;
    }

    /** Returns what has been delivered to an order. */
    public int delivered(int order) throws IndexOutOfBoundsException {
        requireOrder(order);
        return orders[order].received;
    }

    /** Returns the heat of an order; NONE if it has none. */
    public int heatOf(int order) throws IndexOutOfBoundsException {
        requireOrder(order);
        return orders[order].heat;
    }

    /** Returns the weight of all slits of a width that are in the stock. */
    public int stock(int width) {
        int sum = 0;
        for (int i = 0; i < coilCount; i++) {
            sum += coils[i].stockOf(width);
        }
        return sum;
    }

    // ---- what calls require

    private static void requireRange(int value, int least, int most) {
        if (value < least || value > most) {
            throw new IllegalArgumentException("out of range");
        }
    }

    private boolean hasCoil(int number) {
        return number >= 0 && number < coilCount;
    }

    private boolean hasPattern(int number) {
        return number >= 0 && number < patternCount;
    }

    private void requireCoil(int number) {
        if (!hasCoil(number)) {
            throw new IndexOutOfBoundsException("no such coil");
        }
    }

    private void requirePattern(int number) {
        if (!hasPattern(number)) {
            throw new IndexOutOfBoundsException("no such pattern");
        }
    }

    private void requireOrder(int number) {
        if (number < 0 || number >= orderCount) {
            throw new IndexOutOfBoundsException("no such order");
        }
    }

    private void requireSlit(int coil, int slit) {
        requireCoil(coil);
        if (!coils[coil].hasSlitAt(slit)) {
            throw new IndexOutOfBoundsException("the coil has no such slit");
        }
    }

    // ---- fitting and filling

    private int roomOf(Coil coil) {
        return coil.width - 2 * edge;
    }

    private boolean canBeCutFrom(Pattern pattern, Coil coil) {
        return pattern.totalWidth() <= roomOf(coil) && pattern.knivesNeeded() <= knives;
    }

    private void offerWidthsFor(Coil coil) {
        filling.forgetWidths();
        for (int i = 0; i < orderCount; i++) {
            if (orders[i].wouldTakeHeat(coil.heat)) {
                filling.offerWidth(orders[i].width);
            }
        }
    }

    // ---- slitting

    private boolean canBeRun(int coil, int pattern) {
        return hasCoil(coil) && hasPattern(pattern) && !coils[coil].isSlit()
                && canBeCutFrom(patterns[pattern], coils[coil]);
    }

    private int slitCoil(int coil, int pattern) {
        movedKnives += movesBetween(setup, pattern);
        setup = pattern;
        coils[coil].slitBy(patterns[pattern], loss);
        return deliverSlits(coils[coil]);
    }

    private int deliverSlits(Coil coil) {
        int deliveries = 0;
        for (int slit = 0; slit < coil.slitCount; slit++) {
            int taker = takerOf(coil.slitWidths[slit], coil.heat);
            coil.slitOrders[slit] = taker;
            if (taker != NONE) {
                orders[taker].receive(coil.slitWeights[slit], coil.heat);
                deliveries++;
            }
        }
        return deliveries;
    }

    private int takerOf(int width, int heat) {
        for (int i = 0; i < orderCount; i++) {
            if (orders[i].width == width && orders[i].wouldTakeHeat(heat)) {
                return i;
            }
        }
        return NONE;
    }

    /** Either number may be NONE: without a pattern before, all knives are moved. */
    private int movesBetween(int before, int pattern) {
        if (!hasPattern(pattern)) {
            return 0;
        }
        if (!hasPattern(before)) {
            return patterns[pattern].knivesNeeded();
        }
        return patterns[pattern].knivesNotIn(patterns[before]);
    }

    // ---- waiting

    private boolean coilWaits(int coil) {
        for (int i = 0; i < waitingCount; i++) {
            if (waitingCoils[i] == coil) {
                return true;
            }
        }
        return false;
    }

    private void readMoves() {
        for (int to = 0; to < waitingCount; to++) {
            runOrder.moves[RunOrder.START][to] = movesBetween(setup, waitingPatterns[to]);
            for (int from = 0; from < waitingCount; from++) {
                runOrder.moves[from][to] = movesBetween(waitingPatterns[from], waitingPatterns[to]);
            }
        }
    }

    /** A coil, with its defects, and what became of it. */
    private static final class Coil {
        private int width = 0;
        private int weight = 0;
        private int length = 0;
        private int heat = 0;

        // in the order of their beginnings, so that overlaps are met in one pass
        private final int[] defectFroms = new int[MOST_DEFECTS];
        private final int[] defectTos = new int[MOST_DEFECTS];
        private int defectCount = 0;

        private final int[] slitWidths = new int[MOST_SLITS];
        private final int[] slitWeights = new int[MOST_SLITS];
        private final int[] slitOrders = new int[MOST_SLITS];
        private int slitCount = NONE;
        private int innerTurns = 0;
        private int cutOut = 0;
        private int trim = 0;

        private void describe(int width, int weight, int length, int heat) {
            this.width = width;
            this.weight = weight;
            this.length = length;
            this.heat = heat;
        }

        private boolean isSlit() {
            return slitCount != NONE;
        }

        private boolean hasSlitAt(int slit) {
            return slit >= 0 && slit < slitCount;
        }

        private boolean hasMostDefects() {
            return defectCount >= MOST_DEFECTS;
        }

        private void addDefect(int from, int to) {
            if (hasMostDefects()) {
                return;
            }
            int place = defectCount;
            while (place > 0 && defectFroms[place - 1] > from) {
                defectFroms[place] = defectFroms[place - 1];
                defectTos[place] = defectTos[place - 1];
                place--;
            }
            defectFroms[place] = from;
            defectTos[place] = to;
            defectCount++;
        }

        private int cutOutLength() {
            int sum = 0;
            int end = 0;
            for (int i = 0; i < defectCount; i++) {
                int from = Math.max(defectFroms[i], end);
                if (defectTos[i] > from) {
                    sum += defectTos[i] - from;
                    end = defectTos[i];
                }
            }
            return sum;
        }

        private void slitBy(Pattern pattern, int loss) {
            innerTurns = Math.min(loss, weight);
            int left = weight - innerTurns;
            cutOut = share(left, cutOutLength(), length);
            int net = left - cutOut;
            trim = net;
            slitCount = pattern.count;
            for (int slit = 0; slit < slitCount; slit++) {
                slitWidths[slit] = pattern.widths[slit];
                slitWeights[slit] = share(net, slitWidths[slit], width);
                trim -= slitWeights[slit];
            }
        }

        private int stockOf(int width) {
            int sum = 0;
            for (int slit = 0; slit < slitCount; slit++) {
                if (slitWidths[slit] == width && slitOrders[slit] == NONE) {
                    sum += slitWeights[slit];
                }
            }
            return sum;
        }

        private static int share(int weight, int part, int whole) {
            return whole <= 0 ? 0 : weight * part / whole;
        }
    }

    /** A customer's order. */
    private static final class Order {
        private int width = 0;
        private int weight = 0;
        private int received = 0;
        private int heat = NONE;

        private void describe(int width, int weight) {
            this.width = width;
            this.weight = weight;
        }

        private boolean wouldTakeHeat(int coilHeat) {
            return received < weight && (heat == NONE || heat == coilHeat);
        }

        private void receive(int slitWeight, int slitHeat) {
            received += slitWeight;
            // a slit that weighs nothing counts as delivered, too
            heat = slitHeat;
        }
    }

    /** Slits from the left side to the right one: the draft, or a pattern that is kept. */
    private static final class Pattern {
        private final int[] widths = new int[MOST_SLITS];
        private int count = 0;

        private boolean isFull() {
            return count >= widths.length;
        }

        private boolean hasSlitAt(int slit) {
            return slit >= 0 && slit < count;
        }

        private void empty() {
            count = 0;
        }

        private void append(int width) {
            if (!isFull()) {
                widths[count] = width;
                count++;
            }
        }

        private void becomeCopyOf(Pattern other) {
            empty();
            for (int slit = 0; slit < other.count; slit++) {
                append(other.widths[slit]);
            }
        }

        private int totalWidth() {
            int sum = 0;
            for (int slit = 0; slit < count; slit++) {
                sum += widths[slit];
            }
            return sum;
        }

        private int knivesNeeded() {
            return count + 1;
        }

        private int knivesNotIn(Pattern other) {
            int missing = 0;
            int position = 0;
            for (int slit = 0; slit < count; slit++) {
                // the knife at position 0 is in every pattern
                position += widths[slit];
                if (!other.hasKnifeAt(position)) {
                    missing++;
                }
            }
            return missing;
        }

        private boolean hasKnifeAt(int wanted) {
            int position = 0;
            for (int slit = 0; slit < count && position < wanted; slit++) {
                position += widths[slit];
            }
            return position == wanted;
        }
    }

    /** The search for the fullest pattern of the widths that orders would take. */
    private static final class Filling {
        private static final int TOO_MANY = MOST_SLITS + 1;

        // each once, the greatest first
        private final int[] widths = new int[MOST_ORDERS];
        private int widthCount = 0;

        // for each width together, with the entry 0 for the empty pattern
        private final int[] fewestSlits = new int[MOST_COIL_WIDTH + 1];

        private void forgetWidths() {
            widthCount = 0;
        }

        private void offerWidth(int width) {
            int place = 0;
            while (place < widthCount && widths[place] > width) {
                place++;
            }
            boolean known = place < widthCount && widths[place] == width;
            if (known || widthCount >= widths.length) {
                return;
            }
            for (int i = widthCount; i > place; i--) {
                widths[i] = widths[i - 1];
            }
            widths[place] = width;
            widthCount++;
        }

        private int greatestTotal(int room, int mostSlits) {
            int greatest = 0;
            for (int total = 1; total <= room && total < fewestSlits.length; total++) {
                fewestSlits[total] = fewestSlitsFor(total);
                if (fewestSlits[total] <= mostSlits) {
                    greatest = total;
                }
            }
            return greatest;
        }

        private int fewestSlitsFor(int total) {
            int fewest = TOO_MANY;
            for (int i = 0; i < widthCount; i++) {
                if (widths[i] <= total) {
                    fewest = Math.min(fewest, fewestSlits[total - widths[i]] + 1);
                }
            }
            return fewest;
        }

        /** Follows greatestTotal(), whose table it reads. */
        private void layOut(int total, Pattern draft) {
            draft.empty();
            int left = total;
            for (int slits = fewestSlits[total]; slits > 0; slits--) {
                int width = greatestBefore(left, slits - 1);
                draft.append(width);
                left -= width;
            }
        }

        private int greatestBefore(int left, int slitsAfter) {
            for (int i = 0; i < widthCount; i++) {
                if (widths[i] <= left && fewestSlits[left - widths[i]] == slitsAfter) {
                    return widths[i];
                }
            }
            return 0;
        }

        private int greatestTotalByTrying(int room, int mostSlits) {
            return tryFrom(widths, widthCount, 0, room, mostSlits);
        }

        /** Tries the widths from the first one on; slitsLeft bounds the depth. */
        private static int tryFrom(int[] widths, int widthCount, int first, int room, int slitsLeft) {
            int greatest = 0;
            if (slitsLeft <= 0) {
                return greatest;
            }
            for (int i = first; i < widthCount; i++) {
                if (widths[i] <= room) {
                    int total = widths[i]
                            + tryFrom(widths, widthCount, i, room - widths[i], slitsLeft - 1);
                    greatest = Math.max(greatest, total);
                }
            }
            return greatest;
        }
    }

    /** The search for the best order of the waiting runs. */
    private static final class RunOrder {
        private static final int START = MOST_WAITING;
        private static final int SETS = 1 << MOST_WAITING;
        private static final int MORE_THAN_ALL = (MOST_WAITING + 1) * MOST_KNIVES;

        // from the row's run, or from the setup in the row START, to the column's run
        private final int[][] moves = new int[MOST_WAITING + 1][MOST_WAITING];

        // for all runs of the column's set, begun after the row's run or START
        private final int[][] fewest = new int[MOST_WAITING + 1][SETS];

        private final int[] best = new int[MOST_WAITING];

        private int fewestBySets(int runs) {
            int all = (1 << runs) - 1;
            for (int set = 1; set <= all; set++) {
                for (int before = 0; before <= START; before++) {
                    fewest[before][set] = fewestAfter(before, set, runs);
                }
            }
            return fewest[START][all];
        }

        private int fewestAfter(int before, int set, int runs) {
            int least = MORE_THAN_ALL;
            for (int run = 0; run < runs; run++) {
                if (holds(set, run)) {
                    least = Math.min(least, movesThrough(before, run, set));
                }
            }
            return least;
        }

        private int movesThrough(int before, int run, int set) {
            return moves[before][run] + fewest[run][without(set, run)];
        }

        private void findBest(int runs) {
            fewestBySets(runs);
            int before = START;
            int set = (1 << runs) - 1;
            for (int place = 0; place < runs; place++) {
                int next = leastNext(before, set, runs);
                best[place] = next;
                set = without(set, next);
                before = next;
            }
        }

        private int leastNext(int before, int set, int runs) {
            for (int run = 0; run < runs; run++) {
                if (holds(set, run) && movesThrough(before, run, set) == fewest[before][set]) {
                    return run;
                }
            }
            return 0;
        }

        private int fewestByOrders(int runs) {
            return tryOrders(moves, runs, START, (1 << runs) - 1, runs);
        }

        /** Tries every run of the set as the next one; runsLeft bounds the depth. */
        private static int tryOrders(int[][] moves, int runs, int before, int set, int runsLeft) {
            if (runsLeft <= 0) {
                return 0;
            }
            int least = MORE_THAN_ALL;
            for (int run = 0; run < runs; run++) {
                if (holds(set, run)) {
                    int after = tryOrders(moves, runs, run, without(set, run), runsLeft - 1);
                    least = Math.min(least, moves[before][run] + after);
                }
            }
            return least;
        }

        private static boolean holds(int set, int run) {
            return (set >> run & 1) == 1;
        }

        private static int without(int set, int run) {
            return set & ~(1 << run);
        }
    }
}
