/** What promises 23 to 29 say of boundaries; a test for each sentence. */
final class OutcomeBoundaries {
    private static final Class<? extends RuntimeException> INDEX = Checks.INDEX;
    private static final Class<? extends RuntimeException> ARGUMENT = Checks.ARGUMENT;

    private OutcomeBoundaries() {
    }

    static void all() {
        slits();
        slitWeight();
        slitOrder();
        lost();
        delivered();
        heatOf();
        stock();
    }

    /** Coils of 300 mm and 300 kg, without an edge and a loss: each millimetre weighs a kilogram. */
    private static SlittingOffice withPlainCoils(int count) {
        SlittingOffice x = Make.withRules(0, 0, 16);
        for (int i = 0; i < count; i++) {
            x.coil(300, 300, 100, 1 + i);
        }
        return x;
    }

    // ---- promise 23

    private static void slits() {
        p23Coil();
        p23Returns();
        p23None();
        p23NoSuchCoil();
    }

    private static void p23Coil() {
        Document.quote("Promise 23", "coil: a coil");
        SlittingOffice x = withPlainCoils(20);
        Make.keep(x, 100);
        Make.keep(x, 100, 100);
        x.run(0, 0);
        x.run(19, 1);
        Checks.due("the first one", x.slits(0), 1);
        Checks.due("the last one", x.slits(19), 2);
        Checks.due("the one beside", x.slits(18), Make.NONE);
    }

    private static void p23Returns() {
        Document.quote("Promise 23", "Returns how many;");
        SlittingOffice x = withPlainCoils(2);
        Make.keep(x, 20);
        Make.keep(x, Make.times(15, 20));
        x.run(0, 0);
        x.run(1, 1);
        Checks.due("the fewest", x.slits(0), 1);
        Checks.due("the most", x.slits(1), 15);
    }

    private static void p23None() {
        Document.quote("Promise 23", "NONE if it is not slit.");
        SlittingOffice x = withPlainCoils(2);
        Checks.due("at first", x.slits(0), Make.NONE);
        x.defect(0, 0, 100);
        Make.keep(x, 201);
        x.plan(0, 0);
        Checks.due("while it waits", x.slits(0), Make.NONE);
        x.run(1, 0);
        Checks.due("when another one is slit", x.slits(0), Make.NONE);
        x.setRules(50, 0, 16);
        Checks.dueThrow("by a pattern that does not fit", Checks.STATE, () -> x.run(0, 0));
        Checks.due("when its run was refused", x.slits(0), Make.NONE);
        x.runAll();
        Checks.due("when its run was passed over", x.slits(0), Make.NONE);
    }

    private static void p23NoSuchCoil() {
        Document.quote("Promise 23", "Throws IndexOutOfBoundsException if there is no such coil");
        dueNoCoil(new SlittingOffice(), 0);
        dueNoCoil(withPlainCoils(1), 1);
        dueNoCoil(withPlainCoils(20), 20);
    }

    private static void dueNoCoil(SlittingOffice x, int count) {
        for (int coil : Make.outside(0, count - 1)) {
            Checks.dueThrow("slits of coil " + coil + " of " + count, INDEX, () -> x.slits(coil));
        }
    }

    // ---- promise 24

    private static void slitWeight() {
        p24Coil();
        p24Slit();
        p24Returns();
        p24NoSuchCoilOrSlit();
    }

    private static void p24Coil() {
        Document.quote("Promise 24", "coil: a coil");
        SlittingOffice x = withPlainCoils(20);
        Make.keep(x, 100);
        Make.keep(x, 200);
        x.run(0, 0);
        x.run(19, 1);
        Checks.due("the first one", x.slitWeight(0, 0), 100);
        Checks.due("the last one", x.slitWeight(19, 0), 200);
    }

    private static void p24Slit() {
        Document.quote("Promise 24", "slit: 0 for the left one");
        SlittingOffice x = Make.withRules(0, 0, 16);
        x.coil(500, 500, 100, 1);
        for (int i = 0; i < 15; i++) {
            x.addSlit(20 + i);
        }
        x.keep();
        x.run(0, 0);
        for (int i = 0; i < 15; i++) {
            Checks.due("slit " + i, x.slitWeight(0, i), 20 + i);
        }
    }

    private static void p24Returns() {
        Document.quote("Promise 24", "Returns the weight.");
        SlittingOffice x = Make.withRules(0, 0, 16);
        x.coil(2000, 30000, 5000, 99);
        x.coil(1000, 30000, 5000, 99);
        x.coil(2000, 1, 10, 1);
        Make.keep(x, 1000);
        for (int coil = 0; coil < 3; coil++) {
            x.run(coil, 0);
        }
        Checks.due("half of the greatest", x.slitWeight(0, 0), 15000);
        Checks.due("all of the greatest", x.slitWeight(1, 0), 30000);
        Checks.due("half of the least", x.slitWeight(2, 0), 0);
    }

    private static void p24NoSuchCoilOrSlit() {
        Document.quote("Promise 24", "Throws IndexOutOfBoundsException if there is no such coil or slit");
        SlittingOffice x = withSlitCoils();
        for (int coil : Make.outside(0, 2)) {
            Checks.dueThrow("coil " + coil, INDEX, () -> x.slitWeight(coil, 0));
        }
        for (int slit : Make.outside(0, 0)) {
            Checks.dueThrow(slit + " of 1", INDEX, () -> x.slitWeight(0, slit));
        }
        for (int slit : Make.outside(0, 14)) {
            Checks.dueThrow(slit + " of 15", INDEX, () -> x.slitWeight(1, slit));
        }
        for (int slit : new int[] {0, SlittingOffice.NONE, 1, -2, 14, 15}) {
            Checks.dueThrow(slit + " of a coil that is not slit", INDEX, () -> x.slitWeight(2, slit));
        }
        Checks.dueThrow("without coils", INDEX, () -> new SlittingOffice().slitWeight(0, 0));
    }

    /** Coil 0 has 1 slit, coil 1 has 15, coil 2 is not slit. */
    private static SlittingOffice withSlitCoils() {
        SlittingOffice x = withPlainCoils(3);
        Make.keep(x, 100);
        Make.keep(x, Make.times(15, 20));
        x.run(0, 0);
        x.run(1, 1);
        return x;
    }

    // ---- promise 25

    private static void slitOrder() {
        p25Coil();
        p25Slit();
        p25Returns();
        p25None();
        p25NoSuchCoilOrSlit();
    }

    private static void p25Coil() {
        Document.quote("Promise 25", "coil: a coil");
        SlittingOffice x = withPlainCoils(20);
        x.order(100, 1);
        x.order(100, 1);
        Make.keep(x, 100);
        x.run(19, 0);
        x.run(0, 0);
        Checks.due("the last one", x.slitOrder(19, 0), 0);
        Checks.due("the first one", x.slitOrder(0, 0), 1);
    }

    private static void p25Slit() {
        Document.quote("Promise 25", "slit: 0 for the left one");
        SlittingOffice x = withPlainCoils(1);
        for (int i = 0; i < 7; i++) {
            x.order(20, 40);
        }
        Make.keep(x, Make.times(15, 20));
        x.run(0, 0);
        for (int slit = 0; slit < 14; slit++) {
            Checks.due("slit " + slit, x.slitOrder(0, slit), slit / 2);
        }
        Checks.due("slit 14", x.slitOrder(0, 14), Make.NONE);
    }

    private static void p25Returns() {
        Document.quote("Promise 25", "Returns the order;");
        SlittingOffice x = withPlainCoils(1);
        for (int i = 0; i < 12; i++) {
            x.order(20 + i, 50000);
        }
        Make.keep(x, 31, 20, 25);
        x.run(0, 0);
        Checks.due("the last order", x.slitOrder(0, 0), 11);
        Checks.due("the first order", x.slitOrder(0, 1), 0);
        Checks.due("another order", x.slitOrder(0, 2), 5);
    }

    private static void p25None() {
        Document.quote("Promise 25", "NONE if it went into the stock.");
        SlittingOffice x = withPlainCoils(3);
        Make.keep(x, 100, 100);
        x.run(0, 0);
        x.order(100, 1);
        x.run(1, 0);
        x.run(2, 0);
        Checks.due("without orders", x.slitOrder(0, 0), Make.NONE);
        Checks.due("with one that is open", x.slitOrder(1, 0), 0);
        Checks.due("with one that is not open any more", x.slitOrder(1, 1), Make.NONE);
        Checks.due("with one that is not open", x.slitOrder(2, 0), Make.NONE);
        Checks.due("though an order came later", x.slitOrder(0, 1), Make.NONE);
    }

    private static void p25NoSuchCoilOrSlit() {
        Document.quote("Promise 25", "Throws IndexOutOfBoundsException if there is no such coil or slit");
        SlittingOffice x = withSlitCoils();
        for (int coil : Make.outside(0, 2)) {
            Checks.dueThrow("coil " + coil, INDEX, () -> x.slitOrder(coil, 0));
        }
        for (int slit : Make.outside(0, 0)) {
            Checks.dueThrow(slit + " of 1", INDEX, () -> x.slitOrder(0, slit));
        }
        for (int slit : Make.outside(0, 14)) {
            Checks.dueThrow(slit + " of 15", INDEX, () -> x.slitOrder(1, slit));
        }
        for (int slit : new int[] {0, SlittingOffice.NONE, 1, -2, 14, 15}) {
            Checks.dueThrow(slit + " of a coil that is not slit", INDEX, () -> x.slitOrder(2, slit));
        }
        Checks.dueThrow("without coils", INDEX, () -> new SlittingOffice().slitOrder(0, 0));
    }

    // ---- promise 26

    private static void lost() {
        p26Coil();
        p26Part();
        p26Returns();
        p26NotSlit();
        p26NoSuchCoil();
        p26OutOfRange();
    }

    private static void p26Coil() {
        Document.quote("Promise 26", "coil: a coil");
        SlittingOffice x = withPlainCoils(20);
        Make.keep(x, 100);
        Make.keep(x, 120);
        x.run(0, 0);
        x.run(19, 1);
        Checks.due("the first one", x.lost(0, 2), 200);
        Checks.due("the last one", x.lost(19, 2), 180);
        Checks.due("the one beside", x.lost(18, 2), 0);
    }

    private static void p26Part() {
        Document.quote("Promise 26", "part: 0 the inner turns that are lost, 1 what is cut out, 2 the trim");
        SlittingOffice x = Make.withRules(0, 60, 16);
        x.coil(1000, 1060, 100, 1);
        x.defect(0, 0, 30);
        Make.keep(x, 400);
        x.run(0, 0);
        Checks.due("0", x.lost(0, 0), 60);
        Checks.due("1", x.lost(0, 1), 300);
        Checks.due("2", x.lost(0, 2), 420);
        Checks.due("the slit", x.slitWeight(0, 0), 280);
    }

    private static void p26Returns() {
        Document.quote("Promise 26", "Returns the weight;");
        SlittingOffice x = Make.withRules(0, 0, 16);
        for (int i = 0; i < 3; i++) {
            x.coil(1000, 30000, 5000, 1);
        }
        x.coil(1000, 500, 10, 1);
        x.defect(1, 0, 5000);
        Make.keep(x, 1000);
        Make.keep(x, 20);
        x.run(0, 0);
        dueLost("all in the slit", x, 0, 0, 0, 0);
        x.run(1, 0);
        dueLost("all cut out", x, 1, 0, 30000, 0);
        x.run(2, 1);
        dueLost("all but 600 in the trim", x, 2, 0, 0, 29400);
        x.setRules(0, 500, 16);
        x.run(3, 1);
        dueLost("all in the inner turns", x, 3, 500, 0, 0);
        dueLost("as it was slit, by other rules", x, 0, 0, 0, 0);
    }

    private static void dueLost(String what, SlittingOffice x, int coil, int turns, int cutOut, int trim) {
        Checks.due(what + ": inner turns", x.lost(coil, 0), turns);
        Checks.due(what + ": cut out", x.lost(coil, 1), cutOut);
        Checks.due(what + ": trim", x.lost(coil, 2), trim);
    }

    private static void p26NotSlit() {
        Document.quote("Promise 26", "0 if the coil is not slit.");
        SlittingOffice x = Make.withCoils(2);
        dueLost("at first", x, 0, 0, 0, 0);
        x.defect(0, 0, 100);
        Make.keep(x, 100);
        x.plan(0, 0);
        dueLost("while it waits", x, 0, 0, 0, 0);
        x.setRules(100, 500, 2);
        x.run(1, 0);
        dueLost("when another one is slit", x, 0, 0, 0, 0);
        dueLost("the other one", x, 1, 500, 0, 16);
    }

    private static void p26NoSuchCoil() {
        Document.quote("Promise 26", "Throws IndexOutOfBoundsException if there is no such coil");
        SlittingOffice x = new SlittingOffice();
        Checks.dueThrow("without coils", INDEX, () -> x.lost(0, 0));
        Make.addCoils(x, 20);
        for (int coil : Make.outside(0, 19)) {
            for (int part = -1; part <= 3; part++) {
                int p = part;
                Checks.dueThrow("coil " + coil + ", part " + part, INDEX, () -> x.lost(coil, p));
            }
        }
    }

    private static void p26OutOfRange() {
        Document.quote("Promise 26", "Throws IllegalArgumentException if part is out of range");
        SlittingOffice x = withSlitCoils();
        for (int part : Make.outside(0, 2)) {
            Checks.dueThrow("part " + part, ARGUMENT, () -> x.lost(0, part));
            Checks.dueThrow("part " + part + " of a coil that is not slit", ARGUMENT, () -> x.lost(2, part));
        }
    }

    // ---- promise 27

    private static void delivered() {
        p27Order();
        p27Returns();
        p27NoSuchOrder();
    }

    private static void p27Order() {
        Document.quote("Promise 27", "order: an order");
        SlittingOffice x = withPlainCoils(1);
        for (int i = 0; i < 12; i++) {
            x.order(20 + i, 50000);
        }
        Make.keep(x, 31, 20, 20);
        x.run(0, 0);
        Checks.due("the first one", x.delivered(0), 40);
        Checks.due("the last one", x.delivered(11), 31);
        Checks.due("another one", x.delivered(5), 0);
    }

    private static void p27Returns() {
        Document.quote("Promise 27", "Returns the weight.");
        SlittingOffice x = Make.withRules(0, 0, 16);
        x.order(1000, 50000);
        Checks.due("at first", x.delivered(0), 0);
        x.coil(1000, 30000, 10, 1);
        x.coil(1000, 19999, 10, 1);
        x.coil(1000, 30000, 10, 1);
        x.coil(1000, 1, 10, 1);
        Make.keep(x, 1000);
        x.run(0, 0);
        Checks.due("by one slit", x.delivered(0), 30000);
        x.run(1, 0);
        Checks.due("by two", x.delivered(0), 49999);
        x.run(2, 0);
        Checks.due("more than its weight", x.delivered(0), 79999);
        x.run(3, 0);
        Checks.due("no more then", x.delivered(0), 79999);
    }

    private static void p27NoSuchOrder() {
        Document.quote("Promise 27", "Throws IndexOutOfBoundsException if there is no such order");
        SlittingOffice x = new SlittingOffice();
        Checks.dueThrow("without orders", INDEX, () -> x.delivered(0));
        for (int count = 1; count <= 12; count++) {
            x.order(100, 100);
            for (int order : Make.outside(0, count - 1)) {
                Checks.dueThrow(order + " of " + count, INDEX, () -> x.delivered(order));
            }
        }
    }

    // ---- promise 28

    private static void heatOf() {
        p28Order();
        p28Returns();
        p28None();
        p28NoSuchOrder();
    }

    private static void p28Order() {
        Document.quote("Promise 28", "order: an order");
        SlittingOffice x = withPlainCoils(2);
        for (int i = 0; i < 12; i++) {
            x.order(20 + i, 50000);
        }
        Make.keep(x, 20);
        Make.keep(x, 31);
        x.run(0, 1);
        x.run(1, 0);
        Checks.due("the first one", x.heatOf(0), 2);
        Checks.due("the last one", x.heatOf(11), 1);
        Checks.due("another one", x.heatOf(5), Make.NONE);
    }

    private static void p28Returns() {
        Document.quote("Promise 28", "Returns the heat;");
        SlittingOffice x = new SlittingOffice();
        x.coil(300, 300, 10, 99);
        x.coil(300, 300, 10, 1);
        x.coil(300, 300, 10, 1);
        x.order(100, 1);
        x.order(100, 1);
        Make.keep(x, 100);
        x.run(0, 0);
        Checks.due("the greatest", x.heatOf(0), 99);
        x.run(1, 0);
        Checks.due("the least", x.heatOf(1), 1);
        x.run(2, 0);
        Checks.due("as it was", x.heatOf(0), 99);
    }

    private static void p28None() {
        Document.quote("Promise 28", "NONE if it has none.");
        SlittingOffice x = withPlainCoils(2);
        x.order(100, 100);
        x.order(100, 100);
        Checks.due("at first", x.heatOf(0), Make.NONE);
        Make.keep(x, 100);
        x.plan(0, 0);
        Checks.due("while a run waits", x.heatOf(0), Make.NONE);
        x.runAll();
        Checks.due("with a slit", x.heatOf(0), 1);
        Checks.due("an order behind", x.heatOf(1), Make.NONE);
        x.run(1, 0);
        Checks.due("with a slit of another heat", x.heatOf(1), 2);
    }

    private static void p28NoSuchOrder() {
        Document.quote("Promise 28", "Throws IndexOutOfBoundsException if there is no such order");
        SlittingOffice x = new SlittingOffice();
        Checks.dueThrow("without orders", INDEX, () -> x.heatOf(0));
        for (int count = 1; count <= 12; count++) {
            x.order(100, 100);
            for (int order : Make.outside(0, count - 1)) {
                Checks.dueThrow(order + " of " + count, INDEX, () -> x.heatOf(order));
            }
        }
    }

    // ---- promise 29

    private static void stock() {
        p29AllSlits();
        p29AnyNumber();
        p29Returns();
    }

    private static void p29AllSlits() {
        Document.quote("Promise 29", "Returns the weight of all slits of a width that are in the stock.");
        SlittingOffice x = withPlainCoils(20);
        x.order(50, 51);
        Make.keep(x, 50, 49, 50, 51, 50);
        Checks.due("before any run", x.stock(50), 0);
        x.run(0, 0);
        Checks.due("50, two being delivered", x.stock(50), 50);
        for (int coil = 1; coil < 20; coil++) {
            x.run(coil, 0);
        }
        Checks.due("50, of all coils", x.stock(50), 50 + 19 * 150);
        Checks.due("49, of all coils", x.stock(49), 20 * 49);
        Checks.due("51, of all coils", x.stock(51), 20 * 51);
        SlittingOffice y = withPlainCoils(1);
        Make.keep(y, Make.times(15, 20));
        y.run(0, 0);
        Checks.due("20, of a coil with 15 slits", y.stock(20), 15 * 20);
    }

    private static void p29AnyNumber() {
        Document.quote("Promise 29", "width: any number");
        SlittingOffice x = withPlainCoils(2);
        Make.keep(x, 20);
        x.run(0, 0);
        for (int width : Make.outside(20, 1000)) {
            Checks.due("stock of " + width, x.stock(width), 0);
        }
        Checks.due("stock of 0", x.stock(0), 0);
        Checks.due("stock of NONE", x.stock(SlittingOffice.NONE), 0);
        Checks.due("stock of 20", x.stock(20), 20);
    }

    private static void p29Returns() {
        Document.quote("Promise 29", "Returns the weight.");
        SlittingOffice x = Make.withRules(0, 0, 16);
        Make.keep(x, 1000);
        for (int coil = 0; coil < 20; coil++) {
            x.coil(1000, 30000, 10, 1);
            x.run(coil, 0);
            Checks.due("with " + (coil + 1) + " great slits", x.stock(1000), 30000 * (coil + 1));
        }
        SlittingOffice y = Make.withRules(0, 0, 16);
        y.coil(2000, 1, 10, 1);
        Make.keep(y, 1000);
        y.run(0, 0);
        Checks.due("of a slit that weighs nothing", y.stock(1000), 0);
    }
}
