/** Promises 1 to 4. */
public final class CoilsAndRulesTest {
    public static void main(String[] args) {
        newObject();
        coilRanges();
        coilNumbers();
        defectUnion();
        defectRanges();
        defectStates();
        rulesAtFirst();
        rulesRanges();
        rulesHold();
        Checks.finish();
    }

    private static void newObject() {
        SlittingOffice x = new SlittingOffice();
        Checks.due("draftSlits at first", x.draftSlits(), 0);
        Checks.due("clearDraft at first", x.clearDraft(), 0);
        Checks.due("waiting at first", x.waiting(), 0);
        Checks.due("moved at first", x.moved(), 0);
        Checks.due("fewestMoves at first", x.fewestMoves(), 0);
        Checks.due("fewestByTrying at first", x.fewestByTrying(), 0);
        Checks.due("runAll at first", x.runAll(), 0);
        Checks.due("stock at first", x.stock(100), 0);
        Checks.dueThrow("no coil at first", Checks.INDEX, () -> x.slits(0));
        Checks.dueThrow("no pattern at first", Checks.INDEX, () -> x.moves(0));
        Checks.dueThrow("no order at first", Checks.INDEX, () -> x.delivered(0));
        Checks.dueThrow("no draft slit at first", Checks.INDEX, () -> x.draftWidth(0));
    }

    private static void coilRanges() {
        SlittingOffice x = new SlittingOffice();
        Checks.due("least coil", x.coil(100, 1, 10, 1), 0);
        Checks.due("greatest coil", x.coil(2000, 30000, 5000, 99), 1);
        int[][] wrong = {
            {99, 1, 10, 1}, {2001, 1, 10, 1}, {100, 0, 10, 1}, {100, 30001, 10, 1},
            {100, 1, 9, 1}, {100, 1, 5001, 1}, {100, 1, 10, 0}, {100, 1, 10, 100},
            {Integer.MIN_VALUE, 1, 10, 1}, {100, 1, Integer.MAX_VALUE, 1}, {100, -1, 10, 1}, {100, 1, 10, -1},
        };
        for (int[] w : wrong) {
            Checks.dueThrow("coil out of range", Checks.ARGUMENT, () -> x.coil(w[0], w[1], w[2], w[3]));
        }
        Checks.due("coil after wrong ones", x.coil(500, 100, 100, 7), 2);
    }

    private static void coilNumbers() {
        SlittingOffice x = new SlittingOffice();
        for (int i = 0; i < 20; i++) {
            Checks.due("coil number", x.coil(100 + i, 100, 100, 1), i);
        }
        Checks.dueThrow("21st coil", Checks.STATE, () -> x.coil(100, 100, 100, 1));
        Checks.dueThrow("21st coil, out of range", Checks.ARGUMENT, () -> x.coil(99, 100, 100, 1));
        Checks.due("coil 19 is there", x.slits(19), SlittingOffice.NONE);
        Checks.dueThrow("no coil 20", Checks.INDEX, () -> x.slits(20));
    }

    private static void defectUnion() {
        SlittingOffice x = new SlittingOffice();
        x.coil(500, 1000, 100, 1);
        x.coil(500, 1000, 100, 1);
        Checks.due("first defect", x.defect(0, 40, 50), 10);
        Checks.due("the same again", x.defect(0, 40, 50), 10);
        Checks.due("inside", x.defect(0, 42, 45), 10);
        Checks.due("before, apart", x.defect(0, 10, 20), 20);
        Checks.due("touching", x.defect(0, 20, 25), 25);
        Checks.due("overlapping two", x.defect(0, 22, 41), 40);
        Checks.due("around some", x.defect(0, 5, 60), 55);
        Checks.due("the whole", x.defect(0, 0, 100), 100);
        Checks.due("the other coil has its own", x.defect(1, 0, 1), 1);
    }

    private static void defectRanges() {
        SlittingOffice x = new SlittingOffice();
        x.coil(500, 1000, 100, 1);
        Checks.dueThrow("coil -1", Checks.INDEX, () -> x.defect(-1, 0, 1));
        Checks.dueThrow("coil 1", Checks.INDEX, () -> x.defect(1, -5, 1));
        Checks.dueThrow("from -1", Checks.ARGUMENT, () -> x.defect(0, -1, 1));
        Checks.dueThrow("from 100", Checks.ARGUMENT, () -> x.defect(0, 100, 101));
        Checks.dueThrow("from greatest", Checks.ARGUMENT, () -> x.defect(0, Integer.MAX_VALUE, 50));
        Checks.dueThrow("empty", Checks.ARGUMENT, () -> x.defect(0, 10, 10));
        Checks.dueThrow("backwards", Checks.ARGUMENT, () -> x.defect(0, 10, 9));
        Checks.dueThrow("to 101", Checks.ARGUMENT, () -> x.defect(0, 10, 101));
        Checks.due("last metre", x.defect(0, 99, 100), 1);
        Checks.due("first metre", x.defect(0, 0, 1), 2);
    }

    private static void defectStates() {
        SlittingOffice x = new SlittingOffice();
        x.coil(500, 1000, 100, 1);
        x.coil(500, 1000, 100, 1);
        for (int i = 0; i < 8; i++) {
            Checks.due("defect " + i, x.defect(0, 2 * i, 2 * i + 1), i + 1);
        }
        Checks.dueThrow("ninth defect", Checks.STATE, () -> x.defect(0, 50, 60));
        Checks.dueThrow("ninth defect, out of range", Checks.ARGUMENT, () -> x.defect(0, 50, 50));
        x.addSlit(100);
        x.keep();
        x.run(1, 0);
        Checks.dueThrow("defect of a coil that is slit", Checks.STATE, () -> x.defect(1, 0, 1));
        Checks.dueThrow("slit, out of range", Checks.ARGUMENT, () -> x.defect(1, 0, 101));
        x.run(0, 0);
        // 980 kg are left of the coil, 8 of 100 metres are cut out
        Checks.due("eight metres are cut out", x.lost(0, 1), 78);
    }

    private static void rulesAtFirst() {
        SlittingOffice x = new SlittingOffice();
        x.coil(220, 1000, 100, 1);
        x.coil(219, 1000, 100, 1);
        x.coil(2000, 1000, 100, 1);
        addSlits(x, 200);
        x.keep();
        addSlits(x, 20, 20, 20, 20, 20, 20, 20);
        x.keep();
        addSlits(x, 20, 20, 20, 20, 20, 20, 20, 20);
        x.keep();
        Checks.due("edge 10 at first, exactly", x.fits(0, 0), true);
        Checks.due("edge 10 at first, too wide", x.fits(0, 1), false);
        Checks.due("8 knives at first, exactly", x.fits(1, 2), true);
        Checks.due("8 knives at first, 9 needed", x.fits(2, 2), false);
        x.run(0, 0);
        Checks.due("loss 20 at first", x.lost(0, 0), 20);
        Checks.due("setRules tells the edge before", x.setRules(3, 4, 5), 10);
    }

    private static void rulesRanges() {
        SlittingOffice x = new SlittingOffice();
        Checks.due("least rules", x.setRules(0, 0, 2), 10);
        Checks.due("greatest rules", x.setRules(100, 500, 16), 0);
        int[][] wrong = {
            {-1, 0, 2}, {101, 0, 2}, {0, -1, 2}, {0, 501, 2}, {0, 0, 1}, {0, 0, 17},
            {Integer.MIN_VALUE, 0, 2}, {0, Integer.MAX_VALUE, 2}, {0, 0, -8},
        };
        for (int[] w : wrong) {
            Checks.dueThrow("rules out of range", Checks.ARGUMENT, () -> x.setRules(w[0], w[1], w[2]));
        }
        Checks.due("rules after wrong ones", x.setRules(7, 7, 7), 100);
    }

    private static void rulesHold() {
        SlittingOffice x = new SlittingOffice();
        x.coil(100, 400, 100, 1);
        addSlits(x, 40, 40);
        x.keep();
        Checks.due("before", x.fits(0, 0), true);
        x.setRules(10, 333, 2);
        Checks.due("2 knives", x.fits(0, 0), false);
        x.setRules(100, 333, 16);
        Checks.due("edge 100", x.fits(0, 0), false);
        x.setRules(0, 333, 3);
        Checks.due("3 knives", x.fits(0, 0), true);
        x.run(0, 0);
        Checks.due("loss 333", x.lost(0, 0), 333);
        x.setRules(0, 5, 3);
        Checks.due("loss as it was when the coil was slit", x.lost(0, 0), 333);
    }

    private static void addSlits(SlittingOffice x, int... widths) {
        for (int width : widths) {
            x.addSlit(width);
        }
    }
}
