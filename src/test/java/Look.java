import java.util.ArrayList;
import java.util.List;

/** Looks at all that can be seen of an office, or that it keeps for later calls; it is used up by that. */
final class Look {
    private static final int MOST_CALLS = 400;

    private final SlittingOffice x;
    private final List<String> seen = new ArrayList<>();

    private Look(SlittingOffice x) {
        this.x = x;
    }

    static List<String> at(SlittingOffice x, int... widths) {
        Look look = new Look(x);
        look.atDraft();
        look.atWaitingRuns();
        int coils = look.atCoils();
        look.atOrders();
        look.atPatterns(coils);
        for (int width : widths) {
            look.ask("stock(" + width + ")", () -> x.stock(width));
        }
        look.atWhatComes(coils);
        look.atRoomForMore();
        Checks.due("calls of a look, which are " + look.seen.size(), look.seen.size() <= MOST_CALLS, true);
        return look.seen;
    }

    /** Answers whether the call did not throw. */
    private boolean ask(String what, Checks.Call call) {
        try {
            seen.add(what + " answers " + call.answer());
            return true;
        } catch (RuntimeException e) {
            Checks.due(what + " throws an exception of the document", Checks.isOfDocument(e), true);
            seen.add(what + " throws " + e.getClass().getName());
            return false;
        }
    }

    private void atDraft() {
        ask("draftSlits", x::draftSlits);
        int slit = 0;
        while (askDraftWidth(slit)) {
            slit++;
        }
    }

    private boolean askDraftWidth(int slit) {
        return ask("draftWidth(" + slit + ")", () -> x.draftWidth(slit));
    }

    private void atWaitingRuns() {
        ask("moved", x::moved);
        ask("waiting", x::waiting);
        ask("fewestMoves", x::fewestMoves);
        ask("fewestByTrying", x::fewestByTrying);
        int place = 0;
        while (askNextAt(place)) {
            place++;
        }
    }

    private boolean askNextAt(int place) {
        return ask("nextAt(" + place + ")", () -> x.nextAt(place));
    }

    private int atCoils() {
        int coil = 0;
        while (askCoil(coil)) {
            coil++;
        }
        return coil;
    }

    private boolean askCoil(int coil) {
        if (!ask("slits(" + coil + ")", () -> x.slits(coil))) {
            return false;
        }
        ask("lost(" + coil + ", 2)", () -> x.lost(coil, 2));
        int slit = 0;
        while (askSlit(coil, slit)) {
            slit++;
        }
        return true;
    }

    private boolean askSlit(int coil, int slit) {
        ask("slitOrder(" + coil + ", " + slit + ")", () -> x.slitOrder(coil, slit));
        return ask("slitWeight(" + coil + ", " + slit + ")", () -> x.slitWeight(coil, slit));
    }

    private void atOrders() {
        int order = 0;
        while (askOrder(order)) {
            order++;
        }
    }

    private boolean askOrder(int order) {
        ask("heatOf(" + order + ")", () -> x.heatOf(order));
        return ask("delivered(" + order + ")", () -> x.delivered(order));
    }

    private void atPatterns(int coils) {
        int pattern = 0;
        while (askPattern(pattern, coils - 1)) {
            pattern++;
        }
    }

    private boolean askPattern(int pattern, int coil) {
        ask("fits(" + pattern + ", " + coil + ")", () -> x.fits(pattern, coil) ? 1 : 0);
        return ask("moves(" + pattern + ")", () -> x.moves(pattern));
    }

    /** Defects, orders, rules and waiting runs are seen by what they lead to. */
    private void atWhatComes(int coils) {
        ask("runAll", x::runAll);
        for (int coil = 0; coil < coils; coil++) {
            int c = coil;
            ask("defect(" + c + ", 0, 1)", () -> x.defect(c, 0, 1));
            ask("lost(" + c + ", 0)", () -> x.lost(c, 0));
            ask("lost(" + c + ", 1)", () -> x.lost(c, 1));
        }
        for (int coil = Math.max(0, coils - 3); coil < coils; coil++) {
            int c = coil;
            ask("fullestByTrying(" + c + ")", () -> x.fullestByTrying(c));
            ask("fill(" + c + ")", () -> x.fill(c));
            ask("run(" + c + ", 0)", () -> x.run(c, 0));
            ask("lost(" + c + ", 0)", () -> x.lost(c, 0));
            ask("lost(" + c + ", 1)", () -> x.lost(c, 1));
        }
        ask("moved", x::moved);
        atDraft();
        atOrders();
    }

    private void atRoomForMore() {
        ask("setRules", () -> x.setRules(1, 2, 3));
        ask("coil", () -> x.coil(100, 1, 10, 1));
        ask("order", () -> x.order(20, 1));
        ask("keep", x::keep);
        ask("addSlit", () -> x.addSlit(20));
        ask("keep", x::keep);
    }
}
