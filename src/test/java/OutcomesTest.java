/** Promises 23 to 29. */
public final class OutcomesTest {
    public static void main(String[] args) {
        weights();
        lightCoil();
        wholeCoilCutOut();
        greatestNumbers();
        unslitCoil();
        arguments();
        heats();
        weightlessSlit();
        orderIsFull();
        stocks();
        Checks.finish();
    }

    private static void weights() {
        SlittingOffice x = new SlittingOffice();
        x.coil(333, 1000, 77, 3);
        x.defect(0, 10, 20);
        keep(x, 100, 50, 120);
        x.run(0, 0);
        // 980 are left, 980 * 10 / 77 = 127 are cut out, 853 net: 256, 128, 307, and 162
        Checks.due("slits", x.slits(0), 3);
        Checks.due("inner turns", x.lost(0, 0), 20);
        Checks.due("cut out", x.lost(0, 1), 127);
        Checks.due("trim", x.lost(0, 2), 162);
        Checks.due("slit 0", x.slitWeight(0, 0), 256);
        Checks.due("slit 1", x.slitWeight(0, 1), 128);
        Checks.due("slit 2", x.slitWeight(0, 2), 307);
    }

    private static void lightCoil() {
        SlittingOffice x = new SlittingOffice();
        x.coil(333, 20, 77, 3);
        x.coil(333, 19, 77, 3);
        x.coil(333, 21, 77, 3);
        keep(x, 300);
        for (int coil = 0; coil < 3; coil++) {
            x.run(coil, 0);
        }
        Checks.due("weighs the loss", x.lost(0, 0), 20);
        Checks.due("weighs less", x.lost(1, 0), 19);
        Checks.due("weighs more", x.lost(2, 0), 20);
        Checks.due("nothing is left", x.slitWeight(0, 0), 0);
        Checks.due("nothing is left", x.slitWeight(1, 0), 0);
        Checks.due("no trim", x.lost(1, 2), 0);
        Checks.due("one is trim", x.lost(2, 2), 1);
    }

    private static void wholeCoilCutOut() {
        SlittingOffice x = new SlittingOffice();
        x.coil(333, 1000, 77, 3);
        x.defect(0, 0, 77);
        keep(x, 300);
        x.run(0, 0);
        Checks.due("cut out", x.lost(0, 1), 980);
        Checks.due("slit", x.slitWeight(0, 0), 0);
        Checks.due("trim", x.lost(0, 2), 0);
    }

    private static void greatestNumbers() {
        SlittingOffice x = new SlittingOffice();
        x.setRules(0, 0, 16);
        x.coil(2000, 30000, 5000, 99);
        x.coil(2000, 30000, 5000, 99);
        x.defect(0, 0, 4999);
        x.order(1000, 30000);
        keep(x, 1000, 1000);
        x.run(0, 0);
        Checks.due("cut out", x.lost(0, 1), 29994);
        Checks.due("slit", x.slitWeight(0, 1), 3);
        Checks.due("no trim", x.lost(0, 2), 0);
        x.run(1, 0);
        Checks.due("slit", x.slitWeight(1, 0), 15000);
        Checks.due("delivered", x.delivered(0), 30006);
    }

    private static void unslitCoil() {
        SlittingOffice x = new SlittingOffice();
        x.coil(333, 1000, 77, 3);
        x.defect(0, 0, 77);
        Checks.due("slits", x.slits(0), SlittingOffice.NONE);
        for (int part = 0; part <= 2; part++) {
            Checks.due("lost(0, " + part + ")", x.lost(0, part), 0);
        }
        Checks.dueThrow("slitWeight", Checks.INDEX, () -> x.slitWeight(0, 0));
        Checks.dueThrow("slitOrder", Checks.INDEX, () -> x.slitOrder(0, 0));
        Checks.dueThrow("part -1", Checks.ARGUMENT, () -> x.lost(0, -1));
        Checks.dueThrow("part 3", Checks.ARGUMENT, () -> x.lost(0, 3));
    }

    private static void arguments() {
        SlittingOffice x = new SlittingOffice();
        x.coil(333, 1000, 77, 3);
        x.order(50, 10);
        keep(x, 50, 60);
        x.run(0, 0);
        for (int none : new int[] {-1, 1, Integer.MIN_VALUE, Integer.MAX_VALUE}) {
            Checks.dueThrow("slits of no coil", Checks.INDEX, () -> x.slits(none));
            Checks.dueThrow("slitWeight of no coil", Checks.INDEX, () -> x.slitWeight(none, 0));
            Checks.dueThrow("slitOrder of no coil", Checks.INDEX, () -> x.slitOrder(none, 0));
            Checks.dueThrow("lost of no coil", Checks.INDEX, () -> x.lost(none, 3));
            Checks.dueThrow("delivered of no order", Checks.INDEX, () -> x.delivered(none));
            Checks.dueThrow("heatOf no order", Checks.INDEX, () -> x.heatOf(none));
            Checks.due("stock of any number", x.stock(none), 0);
        }
        for (int none : new int[] {-1, 2, 15, Integer.MAX_VALUE}) {
            Checks.dueThrow("slitWeight of no slit", Checks.INDEX, () -> x.slitWeight(0, none));
            Checks.dueThrow("slitOrder of no slit", Checks.INDEX, () -> x.slitOrder(0, none));
        }
        Checks.dueThrow("part -1", Checks.ARGUMENT, () -> x.lost(0, -1));
        Checks.dueThrow("part 3", Checks.ARGUMENT, () -> x.lost(0, 3));
    }

    private static void heats() {
        SlittingOffice x = new SlittingOffice();
        x.coil(220, 1020, 100, 42);
        x.order(200, 100);
        x.order(200, 100);
        Checks.due("no heat at first", x.heatOf(0), SlittingOffice.NONE);
        keep(x, 200);
        x.run(0, 0);
        Checks.due("heat of its slit", x.heatOf(0), 42);
        Checks.due("no heat still", x.heatOf(1), SlittingOffice.NONE);
    }

    private static void weightlessSlit() {
        SlittingOffice x = new SlittingOffice();
        x.coil(220, 20, 100, 42);
        x.coil(220, 1020, 100, 43);
        x.order(200, 1);
        keep(x, 200);
        Checks.due("delivered though it weighs nothing", x.run(0, 0), 1);
        Checks.due("heat of it", x.heatOf(0), 42);
        Checks.due("the order is open still", x.fill(0), 200);
        Checks.due("but not for another heat", x.run(1, 0), 0);
        Checks.due("delivered", x.delivered(0), 0);
    }

    private static void orderIsFull() {
        SlittingOffice x = new SlittingOffice();
        for (int i = 0; i < 3; i++) {
            x.coil(220, 240, 100, 1);
        }
        x.order(200, 401);
        x.order(110, 200);
        keep(x, 200);
        // each slit weighs 200: 400 is less than 401
        x.run(0, 0);
        x.run(1, 0);
        Checks.due("open still", x.run(2, 0), 1);
        Checks.due("delivered", x.delivered(0), 600);
        x.coil(220, 420, 100, 1);
        x.coil(220, 420, 100, 1);
        keep(x, 110);
        // each slit weighs 200: just the order's weight
        Checks.due("first", x.run(3, 1), 1);
        Checks.due("not open with just its weight", x.run(4, 1), 0);
        Checks.due("stock", x.stock(110), 200);
    }

    private static void stocks() {
        SlittingOffice x = new SlittingOffice();
        x.coil(220, 240, 100, 1);
        x.coil(220, 240, 100, 1);
        x.coil(220, 240, 100, 1);
        x.order(50, 1);
        keep(x, 50, 50, 60);
        x.run(0, 0);
        x.run(1, 0);
        // each slit of 50 weighs 50, each of 60 weighs 60; the first one is delivered
        Checks.due("stock of 50", x.stock(50), 150);
        Checks.due("stock of 60", x.stock(60), 120);
        Checks.due("stock of 70", x.stock(70), 0);
        Checks.due("stock of 0", x.stock(0), 0);
        Checks.due("stock of -1", x.stock(-1), 0);
    }

    private static void keep(SlittingOffice x, int... widths) {
        for (int width : widths) {
            x.addSlit(width);
        }
        x.keep();
    }
}
