import java.util.ArrayList;
import java.util.List;
import java.util.TreeSet;

/** The document once more, written without regard to speed, to compare answers with. */
final class Model {
    static final int NONE = -1;

    private static final class Coil {
        int width;
        int weight;
        int heat;
        boolean[] bad;
        int defects;
        List<Integer> widths = null;
        List<Integer> weights = new ArrayList<>();
        List<Integer> takers = new ArrayList<>();
        int[] lost = new int[3];
    }

    private static final class Order {
        int width;
        int weight;
        int delivered;
        int heat = NONE;
    }

    private final List<Coil> coils = new ArrayList<>();
    private final List<Order> orders = new ArrayList<>();
    private final List<List<Integer>> patterns = new ArrayList<>();
    private List<Integer> draft = new ArrayList<>();
    private int edge = 10;
    private int loss = 20;
    private int knives = 8;
    private List<Integer> setup = null;
    private int moved = 0;
    private final List<int[]> waiting = new ArrayList<>();

    private static void argument(boolean good) {
        if (!good) {
            throw new IllegalArgumentException();
        }
    }

    private static void state(boolean good) {
        if (!good) {
            throw new IllegalStateException();
        }
    }

    private static void index(int i, int size) {
        if (i < 0 || i >= size) {
            throw new IndexOutOfBoundsException();
        }
    }

    private static boolean in(int value, int least, int most) {
        return least <= value && value <= most;
    }

    int coil(int width, int weight, int length, int heat) {
        argument(in(width, 100, 2000) && in(weight, 1, 30000) && in(length, 10, 5000) && in(heat, 1, 99));
        state(coils.size() < 20);
        Coil c = new Coil();
        c.width = width;
        c.weight = weight;
        c.heat = heat;
        c.bad = new boolean[length];
        coils.add(c);
        return coils.size() - 1;
    }

    int defect(int coil, int from, int to) {
        index(coil, coils.size());
        Coil c = coils.get(coil);
        argument(in(from, 0, c.bad.length - 1));
        argument(in(to, from + 1, c.bad.length));
        state(c.widths == null && c.defects < 8);
        for (int metre = from; metre < to; metre++) {
            c.bad[metre] = true;
        }
        c.defects++;
        return cutOutLength(c);
    }

    private static int cutOutLength(Coil c) {
        int n = 0;
        for (boolean b : c.bad) {
            n += b ? 1 : 0;
        }
        return n;
    }

    int setRules(int edge, int loss, int knives) {
        argument(in(edge, 0, 100) && in(loss, 0, 500) && in(knives, 2, 16));
        int before = this.edge;
        this.edge = edge;
        this.loss = loss;
        this.knives = knives;
        return before;
    }

    int order(int width, int weight) {
        argument(in(width, 20, 1000) && in(weight, 1, 50000));
        state(orders.size() < 12);
        Order o = new Order();
        o.width = width;
        o.weight = weight;
        orders.add(o);
        return orders.size() - 1;
    }

    int addSlit(int width) {
        argument(in(width, 20, 1000));
        state(draft.size() < 15);
        draft.add(width);
        return draft.size();
    }

    int clearDraft() {
        int n = draft.size();
        draft.clear();
        return n;
    }

    int draftSlits() {
        return draft.size();
    }

    int draftWidth(int slit) {
        index(slit, draft.size());
        return draft.get(slit);
    }

    int keep() {
        state(!draft.isEmpty() && patterns.size() < 10);
        patterns.add(draft);
        draft = new ArrayList<>();
        return patterns.size() - 1;
    }

    int fits(int pattern, int coil) {
        index(pattern, patterns.size());
        index(coil, coils.size());
        return fitting(patterns.get(pattern), coils.get(coil)) ? 1 : 0;
    }

    private boolean fitting(List<Integer> widths, Coil c) {
        return sum(widths) + 2 * edge <= c.width && widths.size() + 1 <= knives;
    }

    private static int sum(List<Integer> widths) {
        int sum = 0;
        for (int w : widths) {
            sum += w;
        }
        return sum;
    }

    private List<Integer> takenWidths(Coil c) {
        TreeSet<Integer> taken = new TreeSet<>();
        for (Order o : orders) {
            if (o.delivered < o.weight && (o.heat == NONE || o.heat == c.heat)) {
                taken.add(o.width);
            }
        }
        return new ArrayList<>(taken.descendingSet());
    }

    /** Falling widths are enough: of one choice of slits, they are the lexically greatest. */
    private List<Integer> fullest(Coil c, List<Integer> widths, int first, List<Integer> chosen) {
        List<Integer> best = new ArrayList<>(chosen);
        for (int i = first; i < widths.size(); i++) {
            chosen.add(widths.get(i));
            if (fitting(chosen, c)) {
                List<Integer> other = fullest(c, widths, i, chosen);
                if (isBetter(other, best)) {
                    best = other;
                }
            }
            chosen.remove(chosen.size() - 1);
        }
        return best;
    }

    private static boolean isBetter(List<Integer> a, List<Integer> b) {
        if (sum(a) != sum(b)) {
            return sum(a) > sum(b);
        }
        if (a.size() != b.size()) {
            return a.size() < b.size();
        }
        for (int i = 0; i < a.size(); i++) {
            if (!a.get(i).equals(b.get(i))) {
                return a.get(i) > b.get(i);
            }
        }
        return false;
    }

    int fill(int coil) {
        index(coil, coils.size());
        Coil c = coils.get(coil);
        draft = fullest(c, takenWidths(c), 0, new ArrayList<>());
        return sum(draft);
    }

    int fullestByTrying(int coil) {
        index(coil, coils.size());
        state(knives <= 8);
        Coil c = coils.get(coil);
        return sum(fullest(c, takenWidths(c), 0, new ArrayList<>()));
    }

    int run(int coil, int pattern) {
        index(coil, coils.size());
        index(pattern, patterns.size());
        Coil c = coils.get(coil);
        state(c.widths == null && fitting(patterns.get(pattern), c));
        return slit(c, patterns.get(pattern));
    }

    private int slit(Coil c, List<Integer> pattern) {
        moved += movesFrom(setup, pattern);
        setup = pattern;
        c.widths = pattern;
        c.lost[0] = Math.min(loss, c.weight);
        int left = c.weight - c.lost[0];
        c.lost[1] = (int) ((long) left * cutOutLength(c) / c.bad.length);
        int net = left - c.lost[1];
        c.lost[2] = net;
        int deliveries = 0;
        for (int width : pattern) {
            int weight = (int) ((long) net * width / c.width);
            c.lost[2] -= weight;
            c.weights.add(weight);
            int taker = NONE;
            for (int i = orders.size() - 1; i >= 0; i--) {
                Order o = orders.get(i);
                if (o.width == width && o.delivered < o.weight && (o.heat == NONE || o.heat == c.heat)) {
                    taker = i;
                }
            }
            c.takers.add(taker);
            if (taker != NONE) {
                orders.get(taker).delivered += weight;
                orders.get(taker).heat = c.heat;
                deliveries++;
            }
        }
        return deliveries;
    }

    private static TreeSet<Integer> positions(List<Integer> pattern) {
        TreeSet<Integer> positions = new TreeSet<>();
        positions.add(0);
        int position = 0;
        for (int width : pattern) {
            position += width;
            positions.add(position);
        }
        return positions;
    }

    private static int movesFrom(List<Integer> before, List<Integer> pattern) {
        TreeSet<Integer> positions = positions(pattern);
        if (before != null) {
            positions.removeAll(positions(before));
        }
        return positions.size();
    }

    int moves(int pattern) {
        index(pattern, patterns.size());
        return movesFrom(setup, patterns.get(pattern));
    }

    int moved() {
        return moved;
    }

    int plan(int coil, int pattern) {
        index(coil, coils.size());
        index(pattern, patterns.size());
        Coil c = coils.get(coil);
        boolean waits = false;
        for (int[] w : waiting) {
            waits |= w[0] == coil;
        }
        state(c.widths == null && !waits && fitting(patterns.get(pattern), c) && waiting.size() < 7);
        waiting.add(new int[] {coil, pattern});
        return waiting.size() - 1;
    }

    int waiting() {
        return waiting.size();
    }

    private int bestMoves;
    private List<Integer> bestOrder;

    /** All orders, the lexically least ones first, so that the first of the best stays. */
    private void tryOrders(List<Integer> order, List<Integer> before, int moves) {
        if (order.size() == waiting.size()) {
            if (bestOrder == null || moves < bestMoves) {
                bestMoves = moves;
                bestOrder = new ArrayList<>(order);
            }
            return;
        }
        for (int i = 0; i < waiting.size(); i++) {
            if (!order.contains(i)) {
                List<Integer> pattern = patterns.get(waiting.get(i)[1]);
                order.add(i);
                tryOrders(order, pattern, moves + movesFrom(before, pattern));
                order.remove(order.size() - 1);
            }
        }
    }

    private List<Integer> best() {
        bestOrder = null;
        tryOrders(new ArrayList<>(), setup, 0);
        return bestOrder;
    }

    int fewestMoves() {
        best();
        return bestMoves;
    }

    int nextAt(int place) {
        index(place, waiting.size());
        return best().get(place);
    }

    int runAll() {
        int done = 0;
        for (int i : best()) {
            Coil c = coils.get(waiting.get(i)[0]);
            List<Integer> pattern = patterns.get(waiting.get(i)[1]);
            if (c.widths == null && fitting(pattern, c)) {
                slit(c, pattern);
                done++;
            }
        }
        waiting.clear();
        return done;
    }

    int slits(int coil) {
        index(coil, coils.size());
        return coils.get(coil).widths == null ? NONE : coils.get(coil).widths.size();
    }

    int slitWeight(int coil, int slit) {
        index(coil, coils.size());
        index(slit, coils.get(coil).weights.size());
        return coils.get(coil).weights.get(slit);
    }

    int slitOrder(int coil, int slit) {
        index(coil, coils.size());
        index(slit, coils.get(coil).takers.size());
        return coils.get(coil).takers.get(slit);
    }

    int lost(int coil, int part) {
        index(coil, coils.size());
        argument(in(part, 0, 2));
        return coils.get(coil).lost[part];
    }

    int delivered(int order) {
        index(order, orders.size());
        return orders.get(order).delivered;
    }

    int heatOf(int order) {
        index(order, orders.size());
        return orders.get(order).heat;
    }

    int stock(int width) {
        int sum = 0;
        for (Coil c : coils) {
            for (int i = 0; i < c.weights.size(); i++) {
                if (c.takers.get(i) == NONE && c.widths.get(i) == width) {
                    sum += c.weights.get(i);
                }
            }
        }
        return sum;
    }
}
