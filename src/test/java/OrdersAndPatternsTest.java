/** Promises 5 to 13. */
public final class OrdersAndPatternsTest {
    public static void main(String[] args) {
        orderRanges();
        orderNumbers();
        draft();
        draftLimits();
        keepStates();
        keptPatternsStay();
        fitsArguments();
        fillPrefersFewSlits();
        fillPrefersGreatFirstSlit();
        fillTakesOpenOrders();
        fillReplacesDraft();
        fillWithoutRoom();
        fillWithManyKnives();
        tryingAgrees();
        tryingStates();
        Checks.finish();
    }

    private static void orderRanges() {
        SlittingOffice x = new SlittingOffice();
        Checks.due("least order", x.order(20, 1), 0);
        Checks.due("greatest order", x.order(1000, 50000), 1);
        int[][] wrong = {
            {19, 1}, {1001, 1}, {20, 0}, {20, 50001}, {-20, 1}, {20, Integer.MIN_VALUE}, {Integer.MAX_VALUE, 1},
        };
        for (int[] w : wrong) {
            Checks.dueThrow("order out of range", Checks.ARGUMENT, () -> x.order(w[0], w[1]));
        }
        Checks.due("order after wrong ones", x.order(20, 1), 2);
    }

    private static void orderNumbers() {
        SlittingOffice x = new SlittingOffice();
        for (int i = 0; i < 12; i++) {
            Checks.due("order number", x.order(100, 100), i);
        }
        Checks.dueThrow("13th order", Checks.STATE, () -> x.order(100, 100));
        Checks.dueThrow("13th order, out of range", Checks.ARGUMENT, () -> x.order(19, 100));
        Checks.due("order 11 is there", x.delivered(11), 0);
        Checks.dueThrow("no order 12", Checks.INDEX, () -> x.delivered(12));
    }

    private static void draft() {
        SlittingOffice x = new SlittingOffice();
        Checks.due("first slit", x.addSlit(20), 1);
        Checks.due("second slit", x.addSlit(1000), 2);
        Checks.due("third slit", x.addSlit(50), 3);
        Checks.due("draftSlits", x.draftSlits(), 3);
        Checks.due("left one", x.draftWidth(0), 20);
        Checks.due("middle one", x.draftWidth(1), 1000);
        Checks.due("right one", x.draftWidth(2), 50);
        Checks.dueThrow("slit -1", Checks.INDEX, () -> x.draftWidth(-1));
        Checks.dueThrow("slit 3", Checks.INDEX, () -> x.draftWidth(3));
        Checks.dueThrow("slit 15", Checks.INDEX, () -> x.draftWidth(15));
        Checks.due("clearDraft", x.clearDraft(), 3);
        Checks.due("draftSlits then", x.draftSlits(), 0);
        Checks.due("clearDraft again", x.clearDraft(), 0);
        Checks.dueThrow("slit 0 then", Checks.INDEX, () -> x.draftWidth(0));
    }

    private static void draftLimits() {
        SlittingOffice x = new SlittingOffice();
        for (int width : new int[] {19, 1001, 0, -1, Integer.MAX_VALUE, Integer.MIN_VALUE}) {
            Checks.dueThrow("slit out of range", Checks.ARGUMENT, () -> x.addSlit(width));
        }
        for (int i = 0; i < 15; i++) {
            Checks.due("slits then", x.addSlit(20 + i), i + 1);
        }
        Checks.dueThrow("16th slit", Checks.STATE, () -> x.addSlit(20));
        Checks.dueThrow("16th slit, out of range", Checks.ARGUMENT, () -> x.addSlit(19));
        Checks.due("slits still", x.draftSlits(), 15);
        Checks.due("right one", x.draftWidth(14), 34);
    }

    private static void keepStates() {
        SlittingOffice x = new SlittingOffice();
        Checks.dueThrow("empty draft", Checks.STATE, x::keep);
        for (int i = 0; i < 10; i++) {
            x.addSlit(20 + i);
            Checks.due("pattern number", x.keep(), i);
            Checks.due("the draft is empty then", x.draftSlits(), 0);
        }
        x.addSlit(77);
        Checks.dueThrow("11th pattern", Checks.STATE, x::keep);
        Checks.due("the draft stays", x.draftWidth(0), 77);
        Checks.dueThrow("no pattern 10", Checks.INDEX, () -> x.moves(10));
    }

    private static void keptPatternsStay() {
        SlittingOffice x = new SlittingOffice();
        x.coil(100, 1020, 100, 1);
        addSlits(x, 30, 50);
        x.keep();
        addSlits(x, 20, 20, 20, 20);
        x.keep();
        x.addSlit(1000);
        x.run(0, 0);
        Checks.due("slits", x.slits(0), 2);
        Checks.due("left one", x.slitWeight(0, 0), 300);
        Checks.due("right one", x.slitWeight(0, 1), 500);
    }

    private static void fitsArguments() {
        SlittingOffice x = new SlittingOffice();
        x.coil(100, 100, 100, 1);
        x.addSlit(80);
        x.keep();
        x.addSlit(81);
        x.keep();
        Checks.due("exactly", x.fits(0, 0), true);
        Checks.due("one too many", x.fits(1, 0), false);
        Checks.dueThrow("pattern -1", Checks.INDEX, () -> x.fits(-1, 0) ? 1 : 0);
        Checks.dueThrow("pattern 2", Checks.INDEX, () -> x.fits(2, 0) ? 1 : 0);
        Checks.dueThrow("coil -1", Checks.INDEX, () -> x.fits(0, -1) ? 1 : 0);
        Checks.dueThrow("coil 1", Checks.INDEX, () -> x.fits(0, 1) ? 1 : 0);
        x.run(0, 0);
        Checks.due("a coil that is slit", x.fits(0, 0), true);
    }

    private static void fillPrefersFewSlits() {
        SlittingOffice x = new SlittingOffice();
        x.coil(320, 1000, 100, 1);
        x.order(60, 10);
        x.order(100, 10);
        x.order(150, 10);
        // 300 is 5 times 60, 3 times 100, and 2 times 150
        Checks.due("fill", x.fill(0), 300);
        dueDraft(x, 150, 150);
        x.order(90, 10);
        Checks.due("fill with another", x.fill(0), 300);
        dueDraft(x, 150, 150);
    }

    private static void fillPrefersGreatFirstSlit() {
        SlittingOffice x = new SlittingOffice();
        x.coil(380, 1000, 100, 1);
        x.order(100, 10);
        x.order(160, 10);
        x.order(120, 10);
        x.order(140, 10);
        // 360 needs three slits: 160 + 100 + 100, 140 + 120 + 100, 120 + 120 + 120
        Checks.due("fill", x.fill(0), 360);
        dueDraft(x, 160, 100, 100);
        x.order(90, 10);
        x.order(110, 10);
        // the first slit is the same, the second one decides
        Checks.due("fill with more", x.fill(0), 360);
        dueDraft(x, 160, 110, 90);
        SlittingOffice y = new SlittingOffice();
        y.coil(1020, 1000, 100, 1);
        y.order(500, 10);
        y.order(300, 10);
        y.order(250, 10);
        y.order(200, 10);
        y.setRules(5, 0, 4);
        // 1000 is 500 + 500, and 500 + 300 + 200, which has more slits
        Checks.due("fill with two", y.fill(0), 1000);
        dueDraft(y, 500, 500);
        y.order(510, 10);
        Checks.due("fill with a greater width together", y.fill(0), 1010);
        dueDraft(y, 510, 500);
    }

    private static void fillTakesOpenOrders() {
        SlittingOffice x = new SlittingOffice();
        x.coil(220, 1020, 100, 1);
        x.coil(220, 1020, 100, 2);
        x.coil(220, 1020, 100, 1);
        x.order(200, 5000);
        x.order(90, 450);
        Checks.due("both orders have no heat", x.fill(0), 200);
        x.keep();
        x.run(0, 0);
        Checks.due("order 0 has heat 1", x.fill(2), 200);
        Checks.due("order 1 only", x.fill(1), 180);
        dueDraft(x, 90, 90);
        x.keep();
        x.run(1, 1);
        Checks.due("order 1 is not open", x.delivered(1), 818 / 2 + 409);
        Checks.due("no order would take it", x.fill(1), 0);
        Checks.due("empty draft", x.draftSlits(), 0);
        Checks.due("a coil that is slit already", x.fill(0), 200);
        Checks.dueThrow("coil 3", Checks.INDEX, () -> x.fill(3));
        Checks.dueThrow("coil -1", Checks.INDEX, () -> x.fill(-1));
        dueDraft(x, 200);
    }

    private static void fillReplacesDraft() {
        SlittingOffice x = new SlittingOffice();
        x.coil(220, 1020, 100, 1);
        addSlits(x, 20, 30, 40);
        Checks.due("no orders", x.fill(0), 0);
        Checks.due("empty draft", x.draftSlits(), 0);
        addSlits(x, 20, 30, 40);
        x.order(150, 10);
        Checks.due("one order", x.fill(0), 150);
        dueDraft(x, 150);
    }

    private static void fillWithoutRoom() {
        SlittingOffice x = new SlittingOffice();
        x.coil(100, 1020, 100, 1);
        x.order(20, 10);
        x.setRules(40, 0, 8);
        Checks.due("just one", x.fill(0), 20);
        x.setRules(41, 0, 8);
        Checks.due("too narrow", x.fill(0), 0);
        x.setRules(50, 0, 8);
        Checks.due("no room", x.fill(0), 0);
        x.setRules(100, 0, 8);
        Checks.due("less than no room", x.fill(0), 0);
        Checks.due("less than no room, by trying", x.fullestByTrying(0), 0);
    }

    private static void fillWithManyKnives() {
        SlittingOffice x = new SlittingOffice();
        x.coil(2000, 30000, 100, 1);
        x.order(20, 10);
        x.setRules(0, 0, 16);
        Checks.due("15 slits", x.fill(0), 300);
        Checks.due("15 slits in the draft", x.draftSlits(), 15);
        x.setRules(0, 0, 2);
        Checks.due("1 slit", x.fill(0), 20);
        x.order(1000, 10);
        x.setRules(0, 0, 3);
        Checks.due("the whole coil", x.fill(0), 2000);
        dueDraft(x, 1000, 1000);
    }

    private static void tryingAgrees() {
        SlittingOffice x = new SlittingOffice();
        x.coil(517, 1000, 100, 1);
        int[] widths = {47, 53, 61, 71, 83, 97, 101, 103, 107, 109, 113, 199};
        for (int width : widths) {
            x.order(width, 10);
            for (int knives = 2; knives <= 8; knives++) {
                x.setRules(3, 0, knives);
                x.addSlit(30);
                int draftBefore = x.draftSlits();
                int tried = x.fullestByTrying(0);
                Checks.due("trying changes nothing", x.draftSlits(), draftBefore);
                Checks.due("fill with " + knives + " knives", x.fill(0), tried);
                int sum = 0;
                for (int i = 0; i < x.draftSlits(); i++) {
                    sum += x.draftWidth(i);
                }
                Checks.due("the draft's widths together", sum, tried);
                x.clearDraft();
            }
        }
    }

    private static void tryingStates() {
        SlittingOffice x = new SlittingOffice();
        x.coil(500, 1000, 100, 1);
        x.order(50, 10);
        Checks.due("8 knives", x.fullestByTrying(0), 350);
        x.setRules(0, 0, 9);
        Checks.dueThrow("9 knives", Checks.STATE, () -> x.fullestByTrying(0));
        Checks.dueThrow("9 knives, no such coil", Checks.INDEX, () -> x.fullestByTrying(1));
        Checks.dueThrow("coil -1", Checks.INDEX, () -> x.fullestByTrying(-1));
        Checks.due("the draft is empty still", x.draftSlits(), 0);
    }

    private static void addSlits(SlittingOffice x, int... widths) {
        for (int width : widths) {
            x.addSlit(width);
        }
    }

    private static void dueDraft(SlittingOffice x, int... widths) {
        Checks.due("slits of the draft", x.draftSlits(), widths.length);
        for (int i = 0; i < widths.length && i < x.draftSlits(); i++) {
            Checks.due("draftWidth(" + i + ")", x.draftWidth(i), widths[i]);
        }
    }
}
