/** Promises 14 to 16. */
public final class RunningTest {
    public static void main(String[] args) {
        runDelivers();
        runKeepsHeatsApart();
        runArguments();
        runStates();
        movesBySetup();
        fifteenSlits();
        Checks.finish();
    }

    private static void runDelivers() {
        SlittingOffice x = new SlittingOffice();
        x.coil(1000, 10020, 100, 4);
        x.order(200, 3000);
        x.order(300, 50000);
        x.order(200, 1);
        keep(x, 200, 150, 200, 200, 200);
        // each slit of 200 weighs 2000: the second one fills order 0, the fourth one finds no order
        Checks.due("slits delivered", x.run(0, 0), 3);
        Checks.due("slit 0", x.slitOrder(0, 0), 0);
        Checks.due("slit 1", x.slitOrder(0, 1), SlittingOffice.NONE);
        Checks.due("slit 2", x.slitOrder(0, 2), 0);
        Checks.due("slit 3", x.slitOrder(0, 3), 2);
        Checks.due("slit 4", x.slitOrder(0, 4), SlittingOffice.NONE);
        Checks.due("order 0", x.delivered(0), 4000);
        Checks.due("order 1", x.delivered(1), 0);
        Checks.due("order 2", x.delivered(2), 2000);
    }

    private static void runKeepsHeatsApart() {
        SlittingOffice x = new SlittingOffice();
        x.coil(220, 1020, 100, 4);
        x.coil(220, 1020, 100, 5);
        x.coil(220, 1020, 100, 4);
        x.coil(220, 1020, 100, 6);
        x.order(200, 50000);
        x.order(200, 50000);
        keep(x, 200);
        Checks.due("heat 4", x.run(0, 0), 1);
        Checks.due("heat 5", x.run(1, 0), 1);
        Checks.due("heat 4 again", x.run(2, 0), 1);
        Checks.due("heat 6 finds no order", x.run(3, 0), 0);
        Checks.due("order 0", x.delivered(0), 2 * 909);
        Checks.due("order 1", x.delivered(1), 909);
        Checks.due("stock", x.stock(200), 909);
    }

    private static void runArguments() {
        SlittingOffice x = new SlittingOffice();
        x.coil(220, 1020, 100, 4);
        keep(x, 200);
        Checks.dueThrow("coil -1", Checks.INDEX, () -> x.run(-1, 0));
        Checks.dueThrow("coil 1", Checks.INDEX, () -> x.run(1, 0));
        Checks.dueThrow("pattern -1", Checks.INDEX, () -> x.run(0, -1));
        Checks.dueThrow("pattern 1", Checks.INDEX, () -> x.run(0, 1));
        Checks.due("not slit by these", x.slits(0), SlittingOffice.NONE);
    }

    private static void runStates() {
        SlittingOffice x = new SlittingOffice();
        x.coil(220, 1020, 100, 4);
        x.coil(219, 1020, 100, 4);
        keep(x, 200);
        keep(x, 20, 20, 20);
        Checks.dueThrow("does not fit", Checks.STATE, () -> x.run(1, 0));
        x.setRules(10, 20, 3);
        Checks.dueThrow("too few knives", Checks.STATE, () -> x.run(0, 1));
        Checks.due("nothing is moved by these", x.moved(), 0);
        x.run(0, 0);
        Checks.dueThrow("slit already", Checks.STATE, () -> x.run(0, 0));
        Checks.dueThrow("slit already, no such pattern", Checks.INDEX, () -> x.run(0, 2));
        Checks.due("moved once", x.moved(), 2);
    }

    private static void movesBySetup() {
        SlittingOffice x = new SlittingOffice();
        for (int i = 0; i < 5; i++) {
            x.coil(500, 100, 100, 1);
        }
        keep(x, 100, 200);
        keep(x, 200, 100);
        keep(x, 300);
        keep(x, 100, 100, 100, 100);
        Checks.due("no setup, 2 slits", x.moves(0), 3);
        Checks.due("no setup, 4 slits", x.moves(3), 5);
        x.run(0, 0);
        Checks.due("moved by the first", x.moved(), 3);
        Checks.due("the same", x.moves(0), 0);
        Checks.due("one other position", x.moves(1), 1);
        Checks.due("a part of it", x.moves(2), 0);
        Checks.due("two other positions", x.moves(3), 2);
        x.run(1, 3);
        Checks.due("moved by two", x.moved(), 5);
        Checks.due("back again", x.moves(0), 0);
        x.run(2, 2);
        Checks.due("moved by three", x.moved(), 5);
        Checks.due("to the wide one", x.moves(3), 3);
        Checks.due("to the other one", x.moves(1), 1);
        x.run(3, 3);
        Checks.due("moved by four", x.moved(), 8);
        Checks.dueThrow("pattern -1", Checks.INDEX, () -> x.moves(-1));
        Checks.dueThrow("pattern 4", Checks.INDEX, () -> x.moves(4));
    }

    private static void fifteenSlits() {
        SlittingOffice x = new SlittingOffice();
        x.setRules(0, 0, 16);
        for (int i = 0; i < 20; i++) {
            x.coil(600, 600, 100, 1);
        }
        for (int i = 0; i < 12; i++) {
            x.order(21 + i, 10);
        }
        keep(x, 20, 20, 20, 20, 20, 20, 20, 20, 20, 20, 20, 20, 20, 20, 20);
        keep(x, 40, 40, 40, 40, 40, 40, 40, 40, 40, 40, 40, 40, 40, 40, 40);
        Checks.due("no order is for this width", x.run(0, 0), 0);
        Checks.due("slits", x.slits(0), 15);
        Checks.due("right one", x.slitWeight(0, 14), 20);
        Checks.due("right one's order", x.slitOrder(0, 14), SlittingOffice.NONE);
        Checks.due("7 positions are the same", x.moves(1), 8);
        x.run(1, 1);
        Checks.due("7 positions are the same", x.moves(0), 8);
        for (int i = 2; i < 20; i++) {
            x.run(i, 0);
        }
        Checks.due("moved", x.moved(), 16 + 8 + 8);
        Checks.due("stock of 20", x.stock(20), 19 * 15 * 20);
        Checks.due("stock of 40", x.stock(40), 15 * 40);
        Checks.due("stock of 0", x.stock(0), 0);
    }

    private static void keep(SlittingOffice x, int... widths) {
        for (int width : widths) {
            x.addSlit(width);
        }
        x.keep();
    }
}
