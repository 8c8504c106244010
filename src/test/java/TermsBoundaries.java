/** What the parts 'What it is' and 'Terms' say of boundaries, and promise 1; a test for each sentence. */
final class TermsBoundaries {
    private static final Class<? extends RuntimeException> INDEX = Checks.INDEX;
    private static final Class<? extends RuntimeException> STATE = Checks.STATE;

    private TermsBoundaries() {
    }

    static void all() {
        calls512();
        p1NoCoilsPatternsAndOrders();
        p1EmptyDraft();
        none();
        coils();
        rulesAndPatterns();
        orders();
        running();
        waitingRuns();
    }

    private static void calls512() {
        Document.quote("What it is", "An object is used for at most 512 calls after it has been made;");
        SlittingOffice x = new SlittingOffice();
        int calls = 0;
        Make.addCoils(x, 20);
        Make.keep(x, 40, 40);
        calls += 23;
        for (int coil = 0; coil < 7; coil++) {
            x.plan(coil, 0);
            calls++;
        }
        while (calls < 510) {
            Checks.due("a call, told again and again", x.fewestMoves(), 3);
            calls++;
        }
        Checks.due("the 511th call", x.runAll(), 7);
        Checks.due("the 512th call", x.moved(), 3);
    }

    private static void p1NoCoilsPatternsAndOrders() {
        Document.quote("Promise 1", "No coils, patterns and orders;");
        SlittingOffice x = new SlittingOffice();
        Checks.dueThrow("coil 0", INDEX, () -> x.slits(0));
        Checks.dueThrow("pattern 0", INDEX, () -> x.moves(0));
        Checks.dueThrow("order 0", INDEX, () -> x.delivered(0));
        Checks.dueThrow("place 0", INDEX, () -> x.nextAt(0));
        Checks.due("waiting", x.waiting(), 0);
        Checks.due("moved", x.moved(), 0);
        Checks.due("stock", x.stock(100), 0);
        Checks.due("the first coil", x.coil(100, 1, 10, 1), 0);
        Checks.due("the first order", x.order(20, 1), 0);
        x.addSlit(20);
        Checks.due("the first pattern", x.keep(), 0);
    }

    private static void p1EmptyDraft() {
        Document.quote("Promise 1", "an empty draft.");
        SlittingOffice x = new SlittingOffice();
        Checks.due("draftSlits", x.draftSlits(), 0);
        Checks.due("clearDraft", x.clearDraft(), 0);
        Checks.dueThrow("draftWidth(0)", INDEX, () -> x.draftWidth(0));
        Checks.dueThrow("keep", STATE, x::keep);
        Checks.due("the first slit", x.addSlit(20), 1);
    }

    private static void none() {
        Document.quote("Terms", "The constants: NONE = -1: There is none.");
        Checks.due("NONE", SlittingOffice.NONE, -1);
    }

    // ---- Coils

    private static void coils() {
        atMost20Coils();
        stretches();
        overlaps();
        cutOutLength();
    }

    private static void atMost20Coils() {
        Document.quote("Terms", "There are at most 20 coils, numbered from 0.");
        SlittingOffice x = new SlittingOffice();
        for (int i = 0; i < 20; i++) {
            int number = i;
            Checks.dueThrow("coil " + i + " before it is added", INDEX, () -> x.slits(number));
            Checks.due("coil " + i, x.coil(100, 1, 10, 1), i);
            Checks.due("coil " + i + " is there", x.slits(i), Make.NONE);
        }
        Checks.dueThrow("a 21st coil", STATE, () -> x.coil(100, 1, 10, 1));
        Checks.dueThrow("coil 20", INDEX, () -> x.slits(20));
    }

    private static void stretches() {
        Document.quote("Terms", "It can have defects, stretches of its length from one metre to another one;");
        SlittingOffice x = new SlittingOffice();
        x.coil(100, 1000, 10, 1);
        Checks.due("its first metre", x.defect(0, 0, 1), 1);
        Checks.due("its last metre", x.defect(0, 9, 10), 2);
        Checks.due("its whole length", x.defect(0, 0, 10), 10);
    }

    private static void overlaps() {
        Document.quote("Terms", "they may overlap.");
        SlittingOffice x = new SlittingOffice();
        x.coil(100, 1000, 100, 1);
        Checks.due("the first one", x.defect(0, 10, 20), 10);
        Checks.due("the same once more", x.defect(0, 10, 20), 10);
        Checks.due("over its end", x.defect(0, 15, 25), 15);
        Checks.due("over its beginning", x.defect(0, 5, 12), 20);
        Checks.due("inside", x.defect(0, 6, 24), 20);
        Checks.due("from its end on", x.defect(0, 25, 30), 25);
        Checks.due("up to its beginning", x.defect(0, 0, 5), 30);
        Checks.due("around all", x.defect(0, 0, 100), 100);
    }

    private static void cutOutLength() {
        Document.quote("Terms", "The cut-out length is how many metres of the coil lie in one or more of them.");
        SlittingOffice x = Make.withRules(0, 0, 8);
        x.coil(100, 1000, 100, 1);
        x.coil(100, 1000, 100, 1);
        Make.keep(x, 50);
        x.run(1, 0);
        Checks.due("in none: kilograms cut out", x.lost(1, 1), 0);
        Checks.due("in one", x.defect(0, 40, 50), 10);
        Checks.due("some in two", x.defect(0, 45, 55), 15);
        Checks.due("some in three", x.defect(0, 49, 50), 15);
        Checks.due("a gap of one metre", x.defect(0, 56, 57), 16);
        Checks.due("the gap", x.defect(0, 55, 56), 17);
        Checks.due("a gap before", x.defect(0, 30, 39), 26);
        Checks.due("over the gap and more", x.defect(0, 38, 45), 27);
        x.run(0, 0);
        Checks.due("kilograms cut out", x.lost(0, 1), 270);
    }

    // ---- Rules, patterns

    private static void rulesAndPatterns() {
        edgeAtFirst();
        lossAtFirst();
        knivesAtFirst();
        firstSlitBehindEdge();
        oneKnifeMore();
        positionsFromFirstSlit();
        patternFits();
        draftAndPatterns();
    }

    private static void edgeAtFirst() {
        Document.quote("Terms",
                "The edge is how much has to be trimmed at each side at least, 10 millimetres at first;");
        SlittingOffice x = new SlittingOffice();
        x.coil(220, 1000, 100, 1);
        x.coil(219, 1000, 100, 1);
        Make.keep(x, 200);
        Checks.due("10 at each side", x.fits(0, 0), true);
        Checks.due("10 and 9", x.fits(0, 1), false);
        Checks.due("the edge before", x.setRules(0, 0, 2), 10);
    }

    private static void lossAtFirst() {
        Document.quote("Terms", "the loss is the weight of the inner turns of a coil, 20 kilograms at first;");
        SlittingOffice x = new SlittingOffice();
        x.coil(220, 1000, 100, 1);
        Make.keep(x, 200);
        x.run(0, 0);
        Checks.due("inner turns", x.lost(0, 0), 20);
    }

    private static void knivesAtFirst() {
        Document.quote("Terms", "the arbor has some knives, 8 at first.");
        SlittingOffice x = new SlittingOffice();
        x.coil(2000, 1000, 100, 1);
        Make.keep(x, Make.times(7, 20));
        Make.keep(x, Make.times(8, 20));
        Checks.due("8 knives", x.fits(0, 0), true);
        Checks.due("9 knives", x.fits(1, 0), false);
        x.order(20, 1);
        Checks.due("fill takes 8 knives", x.fill(0), 140);
        Checks.due("trying is not refused", x.fullestByTrying(0), 140);
    }

    private static void firstSlitBehindEdge() {
        Document.quote("Terms", "its first slit begins at the distance of the edge from the left side of the coil.");
        SlittingOffice x = Make.withRules(100, 0, 8);
        x.coil(220, 1000, 100, 1);
        x.coil(219, 1000, 100, 1);
        Make.keep(x, 20);
        Checks.due("from 100 to 120 of 220", x.fits(0, 0), true);
        Checks.due("from 100 to 120 of 219", x.fits(0, 1), false);
    }

    private static void oneKnifeMore() {
        Document.quote("Terms",
                "It needs 1 knife more than it has slits: at the beginning of the first slit, and at the end of each.");
        SlittingOffice x = Make.withRules(0, 0, 16);
        x.coil(2000, 1000, 100, 1);
        for (int slits = 1; slits <= 8; slits++) {
            Make.keep(x, Make.times(slits, 20));
        }
        Make.keep(x, Make.times(15, 20));
        for (int slits = 1; slits <= 8; slits++) {
            Checks.due(slits + " slits", x.moves(slits - 1), slits + 1);
        }
        Checks.due("15 slits", x.moves(8), 16);
        Checks.due("16 knives", x.fits(8, 0), true);
        x.setRules(0, 0, 15);
        Checks.due("15 knives", x.fits(8, 0), false);
        x.setRules(0, 0, 2);
        Checks.due("1 slit, 2 knives", x.fits(0, 0), true);
        Checks.due("2 slits, 2 knives", x.fits(1, 0), false);
    }

    private static void positionsFromFirstSlit() {
        Document.quote("Terms", "The positions of its knives are told from the beginning of the first slit, "
                + "which is the position 0.");
        SlittingOffice x = Make.withCoils(1);
        Make.keep(x, 30, 50);
        Make.keep(x, 40, 40);
        Make.keep(x, 40, 50);
        x.setRules(100, 20, 8);
        x.run(0, 0);
        Checks.due("the same", x.moves(0), 0);
        Checks.due("0 and 80 are the same", x.moves(1), 1);
        Checks.due("0 is the same", x.moves(2), 2);
        x.setRules(0, 20, 8);
        Checks.due("the same with another edge", x.moves(0), 0);
        Checks.due("0 and 80 with another edge", x.moves(1), 1);
    }

    private static void patternFits() {
        Document.quote("Terms", "A pattern fits a coil if its widths, together, and twice the edge are not more than "
                + "the width of the coil, and it needs no more knives than there are.");
        SlittingOffice x = Make.withRules(0, 0, 3);
        x.coil(1000, 1000, 100, 1);
        x.coil(100, 1000, 100, 1);
        Make.keep(x, 1000);
        Make.keep(x, 500, 500);
        Make.keep(x, 500, 501);
        Make.keep(x, 400, 400);
        Make.keep(x, 400, 401);
        Make.keep(x, 20, 20, 20);
        Make.keep(x, 20);
        Checks.due("1000 of 1000", x.fits(0, 0), true);
        Checks.due("500 and 500 of 1000", x.fits(1, 0), true);
        Checks.due("500 and 501 of 1000", x.fits(2, 0), false);
        Checks.due("4 of 3 knives", x.fits(5, 0), false);
        x.setRules(1, 0, 3);
        Checks.due("500 and 500 of 1000 with an edge of 1", x.fits(1, 0), false);
        x.setRules(100, 0, 4);
        Checks.due("400 and 400 of 1000 with an edge of 100", x.fits(3, 0), true);
        Checks.due("400 and 401 of 1000 with an edge of 100", x.fits(4, 0), false);
        Checks.due("4 of 4 knives", x.fits(5, 0), true);
        Checks.due("20 of 100 with an edge of 100", x.fits(6, 1), false);
        x.setRules(50, 0, 4);
        Checks.due("20 of 100 with an edge of 50", x.fits(6, 1), false);
        x.setRules(41, 0, 4);
        Checks.due("20 of 100 with an edge of 41", x.fits(6, 1), false);
        x.setRules(40, 0, 4);
        Checks.due("20 of 100 with an edge of 40", x.fits(6, 1), true);
    }

    private static void draftAndPatterns() {
        Document.quote("Terms", "There is a draft, at first without slits, and at most 10 patterns, numbered from 0.");
        SlittingOffice x = new SlittingOffice();
        Checks.due("slits of the draft at first", x.draftSlits(), 0);
        for (int i = 0; i < 10; i++) {
            int number = i;
            Checks.dueThrow("pattern " + i + " before it is kept", INDEX, () -> x.moves(number));
            Checks.due("pattern " + i, Make.keep(x, 20 + i), i);
            Checks.due("pattern " + i + " is there", x.moves(i), 2);
        }
        x.addSlit(20);
        Checks.dueThrow("an 11th pattern", STATE, x::keep);
        Checks.dueThrow("pattern 10", INDEX, () -> x.moves(10));
    }

    // ---- Orders

    private static void orders() {
        atMost12Orders();
        orderIsOpen();
        heatOfFirstSlit();
        noHeat();
    }

    private static void atMost12Orders() {
        Document.quote("Terms",
                "There are at most 12 orders, numbered from 0, each for slits of one width up to some weight.");
        SlittingOffice x = Make.withRules(0, 0, 8);
        for (int i = 0; i < 12; i++) {
            int number = i;
            Checks.dueThrow("order " + i + " before it is added", INDEX, () -> x.delivered(number));
            Checks.due("order " + i, x.order(100 + i, 50000), i);
            Checks.due("order " + i + " is there", x.delivered(i), 0);
        }
        Checks.dueThrow("a 13th order", STATE, () -> x.order(100, 1));
        Checks.dueThrow("order 12", INDEX, () -> x.delivered(12));
        x.coil(1000, 1000, 100, 1);
        Make.keep(x, 99, 100, 111, 112);
        Checks.due("slits for the orders 0 and 11", x.run(0, 0), 2);
        Checks.due("1 mm less than order 0", x.slitOrder(0, 0), Make.NONE);
        Checks.due("as order 0", x.slitOrder(0, 1), 0);
        Checks.due("as order 11", x.slitOrder(0, 2), 11);
        Checks.due("1 mm more than order 11", x.slitOrder(0, 3), Make.NONE);
    }

    private static void orderIsOpen() {
        Document.quote("Terms", "An order is open as long as less than its weight has been delivered.");
        SlittingOffice x = Make.withRules(0, 0, 8);
        x.coil(200, 98, 100, 1);
        x.coil(200, 2, 100, 1);
        x.coil(200, 2, 100, 1);
        x.coil(200, 30000, 100, 1);
        x.coil(200, 2, 100, 1);
        x.order(100, 50);
        Make.keep(x, 100);
        Checks.due("with 0 of 50", x.run(0, 0), 1);
        Checks.due("49 of 50", x.delivered(0), 49);
        Checks.due("with 49 of 50", x.run(1, 0), 1);
        Checks.due("50 of 50", x.delivered(0), 50);
        Checks.due("with 50 of 50", x.run(2, 0), 0);
        Checks.due("50 of 50 still", x.delivered(0), 50);
        x.order(100, 50);
        Checks.due("a slit of 15000", x.run(3, 0), 1);
        Checks.due("15000 of 50", x.delivered(1), 15000);
        Checks.due("with 15000 of 50", x.run(4, 0), 0);
        Checks.due("fill, with no open order", x.fill(0), 0);
    }

    private static void heatOfFirstSlit() {
        Document.quote("Terms", "Its heat is that of the first slit that was delivered to it;");
        SlittingOffice x = Make.withRules(0, 0, 8);
        x.coil(200, 1, 100, 99);
        x.coil(200, 200, 100, 1);
        x.coil(200, 200, 100, 99);
        x.order(100, 50000);
        Make.keep(x, 100);
        Checks.due("the first slit, of 0 kg", x.run(0, 0), 1);
        Checks.due("its heat", x.heatOf(0), 99);
        Checks.due("a slit of another heat", x.run(1, 0), 0);
        Checks.due("the heat still", x.heatOf(0), 99);
        Checks.due("a slit of the first one's heat", x.run(2, 0), 1);
        Checks.due("the same heat", x.heatOf(0), 99);
        Checks.due("delivered", x.delivered(0), 100);
    }

    private static void noHeat() {
        Document.quote("Terms", "as long as none was, it has no heat.");
        SlittingOffice x = Make.withRules(0, 0, 8);
        x.order(100, 50000);
        Checks.due("without coils", x.heatOf(0), Make.NONE);
        x.coil(200, 200, 100, 7);
        x.coil(200, 200, 100, 8);
        x.order(100, 50000);
        Make.keep(x, 101, 99);
        Make.keep(x, 100);
        x.run(0, 0);
        Checks.due("slits of other widths only", x.heatOf(0), Make.NONE);
        x.run(1, 1);
        Checks.due("the order that took a slit", x.heatOf(0), 8);
        Checks.due("the order that took none", x.heatOf(1), Make.NONE);
    }

    // ---- Running

    private static void running() {
        slitOnce();
        lossOrAll();
        cutOutPart();
        netWeight();
        slitWeights();
        trim();
        delivery();
        intoStock();
        setup();
        positionsOfSetup();
        withoutSetup();
    }

    private static void slitOnce() {
        Document.quote("Terms", "A coil is slit once, by a pattern that fits.");
        SlittingOffice x = Make.withCoils(1);
        Make.keep(x, 481);
        Make.keep(x, 480);
        Make.keep(x, 20);
        Checks.dueThrow("by one that does not fit", STATE, () -> x.run(0, 0));
        Checks.due("not slit", x.slits(0), Make.NONE);
        Checks.due("by one that fits", x.run(0, 1), 0);
        Checks.dueThrow("by the same again", STATE, () -> x.run(0, 1));
        Checks.dueThrow("by another one", STATE, () -> x.run(0, 2));
        Checks.due("slit once", x.slits(0), 1);
        // 500 kg of 500 mm
        Checks.due("by the first one", x.slitWeight(0, 0), 480);
    }

    private static void lossOrAll() {
        Document.quote("Terms", "Of its weight, the loss, or all of it if it weighs less, is lost as inner turns;");
        int[][] lossWeightLost = {
            {20, 1, 1}, {20, 19, 19}, {20, 20, 20}, {20, 21, 20}, {20, 30000, 20},
            {0, 1, 0}, {0, 30000, 0}, {500, 499, 499}, {500, 500, 500}, {500, 501, 500},
        };
        for (int[] c : lossWeightLost) {
            SlittingOffice x = Make.withRules(0, c[0], 8);
            x.coil(200, c[1], 10, 1);
            Make.keep(x, 200);
            x.run(0, 0);
            String what = "loss " + c[0] + ", weight " + c[1] + ": ";
            Checks.due(what + "inner turns", x.lost(0, 0), c[2]);
            Checks.due(what + "slit", x.slitWeight(0, 0), c[1] - c[2]);
        }
    }

    private static void cutOutPart() {
        Document.quote("Terms", "of what is left then, the cut-out length's part is cut out: "
                + "what is left times the cut-out length, divided by the length, rounded down.");
        int[][] leftMetresLengthCut = {
            {100, 0, 10, 0}, {100, 1, 10, 10}, {99, 1, 10, 9}, {9, 1, 10, 0}, {10, 1, 10, 1}, {11, 9, 10, 9},
            {100, 10, 10, 100}, {0, 10, 10, 0}, {29500, 4999, 5000, 29494}, {29500, 5000, 5000, 29500},
            {29500, 1, 5000, 5}, {4999, 1, 5000, 0}, {5000, 1, 5000, 1},
        };
        for (int[] c : leftMetresLengthCut) {
            SlittingOffice x = Make.withRules(0, 500, 8);
            x.coil(200, c[0] + 500, c[2], 1);
            if (c[1] > 0) {
                x.defect(0, c[2] - c[1], c[2]);
            }
            Make.keep(x, 200);
            x.run(0, 0);
            String what = c[1] + " of " + c[2] + " metres, " + c[0] + " kg left: ";
            Checks.due(what + "cut out", x.lost(0, 1), c[3]);
            Checks.due(what + "slit", x.slitWeight(0, 0), c[0] - c[3]);
        }
    }

    private static void netWeight() {
        Document.quote("Terms", "The rest is the net weight.");
        SlittingOffice x = Make.withRules(0, 7, 8);
        x.coil(200, 1000, 100, 1);
        x.coil(200, 1000, 100, 1);
        x.coil(200, 5, 100, 1);
        x.defect(0, 0, 13);
        x.defect(1, 0, 100);
        Make.keep(x, 200);
        for (int coil = 0; coil < 3; coil++) {
            x.run(coil, 0);
        }
        // 993 are left, 129.09 are cut out
        Checks.due("some of it", x.slitWeight(0, 0), 864);
        Checks.due("nothing after the cutting out", x.slitWeight(1, 0), 0);
        Checks.due("nothing after the inner turns", x.slitWeight(2, 0), 0);
    }

    private static void slitWeights() {
        Document.quote("Terms",
                "Each slit weighs the net weight times its width, divided by the width of the coil, rounded down.");
        int[][] netCoilSlitWeight = {
            {999, 1000, 1000, 999}, {999, 1000, 500, 499}, {1, 1000, 999, 0}, {1, 1000, 1000, 1},
            {30000, 2000, 1000, 15000}, {29999, 2000, 1000, 14999}, {30000, 1999, 1000, 15007},
            {30000, 2000, 20, 300}, {99, 2000, 20, 0}, {100, 2000, 20, 1}, {101, 2000, 20, 1},
        };
        for (int[] c : netCoilSlitWeight) {
            SlittingOffice x = Make.withRules(0, 0, 8);
            x.coil(c[1], c[0], 10, 1);
            Make.keep(x, c[2]);
            x.run(0, 0);
            Checks.due(c[2] + " of " + c[1] + " mm, " + c[0] + " kg", x.slitWeight(0, 0), c[3]);
        }
    }

    private static void trim() {
        Document.quote("Terms", "The trim weighs what is left of the net weight.");
        SlittingOffice x = Make.withRules(0, 0, 16);
        x.coil(1000, 1000, 10, 1);
        x.coil(1000, 999, 10, 1);
        x.coil(1000, 1, 10, 1);
        x.coil(1000, 1000, 10, 1);
        x.coil(2000, 30000, 10, 1);
        Make.keep(x, 500, 500);
        Make.keep(x, 20);
        Make.keep(x, Make.times(15, 21));
        x.run(0, 0);
        Checks.due("nothing", x.lost(0, 2), 0);
        x.run(1, 0);
        Checks.due("what the rounding leaves", x.lost(1, 2), 1);
        x.run(2, 0);
        Checks.due("all, where slits weigh nothing", x.lost(2, 2), 1);
        x.run(3, 1);
        Checks.due("980 of 1000", x.lost(3, 2), 980);
        x.run(4, 2);
        Checks.due("beside 15 slits", x.lost(4, 2), 30000 - 15 * 315);
    }

    private static void delivery() {
        Document.quote("Terms", "Then each slit, from the left to the right, is delivered to the open order with the "
                + "least number that is for its width, and has the heat of the coil or none;");
        SlittingOffice x = Make.withRules(0, 0, 8);
        x.coil(1000, 1000, 10, 3);
        x.coil(1000, 1000, 10, 4);
        x.order(200, 100);
        x.order(100, 100);
        x.order(100, 101);
        x.order(100, 50000);
        Make.keep(x, 100, 100, 100, 200, 100, 200);
        Checks.due("delivered", x.run(0, 0), 5);
        int[] takers = {1, 2, 2, 0, 3, Make.NONE};
        for (int slit = 0; slit < takers.length; slit++) {
            Checks.due("taker of slit " + slit, x.slitOrder(0, slit), takers[slit]);
        }
        x.order(100, 1);
        x.order(200, 1);
        // order 3 is open, but of heat 3
        Checks.due("delivered of heat 4", x.run(1, 0), 2);
        int[] takersThen = {4, Make.NONE, Make.NONE, 5, Make.NONE, Make.NONE};
        for (int slit = 0; slit < takersThen.length; slit++) {
            Checks.due("taker of slit " + slit + " of heat 4", x.slitOrder(1, slit), takersThen[slit]);
        }
    }

    private static void intoStock() {
        Document.quote("Terms", "if there is none, it goes into the stock.");
        SlittingOffice x = Make.withRules(0, 0, 8);
        for (int heat = 1; heat <= 3; heat++) {
            x.coil(200, 200, 10, heat);
        }
        Make.keep(x, 100);
        x.run(0, 0);
        Checks.due("no order at all", x.stock(100), 100);
        x.order(101, 50000);
        x.order(100, 1);
        x.run(1, 0);
        Checks.due("an order for it", x.stock(100), 100);
        x.order(99, 50000);
        x.run(2, 0);
        Checks.due("none is open for it", x.stock(100), 200);
        x.order(100, 50000);
        Checks.due("an order that comes later takes nothing out", x.stock(100), 200);
        Checks.due("its weight then", x.delivered(3), 0);
    }

    private static void setup() {
        Document.quote("Terms", "The setup is the pattern that was run last, at first none.");
        SlittingOffice x = Make.withCoils(4);
        Make.keep(x, 100, 100);
        Make.keep(x, 60, 60);
        Checks.due("at first none", x.moves(0), 3);
        x.plan(0, 0);
        Checks.due("none, while a run waits", x.moves(0), 3);
        x.run(1, 1);
        Checks.due("the pattern that was run", x.moves(1), 0);
        Checks.due("another one", x.moves(0), 2);
        x.runAll();
        Checks.due("the pattern that waited", x.moves(0), 0);
        Checks.due("not the one before", x.moves(1), 2);
        x.setRules(100, 0, 2);
        Checks.dueThrow("a run that is refused", STATE, () -> x.run(2, 1));
        Checks.due("the pattern as before", x.moves(0), 0);
    }

    private static void positionsOfSetup() {
        Document.quote("Terms", "The knives that are moved for a pattern are as many as it has positions that are "
                + "none of the positions of the setup;");
        SlittingOffice x = Make.withRules(0, 0, 16);
        Make.addCoils(x, 2);
        x.coil(2000, 2000, 10, 1);
        Make.keep(x, 100, 100);
        Make.keep(x, 200);
        Make.keep(x, 50, 100, 200);
        Make.keep(x, 100, 100);
        Make.keep(x, 100, 100, 20);
        Make.keep(x, 20, 80, 20, 80, 20);
        Make.keep(x, Make.times(15, 100));
        x.run(0, 0);
        Checks.due("the setup itself", x.moves(0), 0);
        Checks.due("some of its positions", x.moves(1), 0);
        Checks.due("none but 0", x.moves(2), 3);
        Checks.due("another pattern of the same slits", x.moves(3), 0);
        Checks.due("one more at the right side", x.moves(4), 1);
        Checks.due("all and three more", x.moves(5), 3);
        Checks.due("2 of 15 slits' ends", x.moves(6), 13);
        x.run(1, 1);
        Checks.due("back to one with more positions", x.moves(0), 1);
        x.run(2, 6);
        Checks.due("one whose positions are in the setup", x.moves(0), 0);
    }

    private static void withoutSetup() {
        Document.quote("Terms", "all of its knives, if there is no setup.");
        SlittingOffice x = Make.withRules(0, 0, 16);
        x.coil(2000, 2000, 10, 1);
        Make.keep(x, 20);
        Make.keep(x, Make.times(15, 20));
        Checks.due("of the least pattern", x.moves(0), 2);
        Checks.due("of the greatest pattern", x.moves(1), 16);
        x.run(0, 1);
        Checks.due("moved by the first run", x.moved(), 16);
    }

    // ---- waiting runs

    private static void waitingRuns() {
        numberedAsTold();
        bestOrder();
    }

    private static void numberedAsTold() {
        Document.quote("Terms", "Ahead of the calls plan, waiting, fewestMoves, fewestByTrying, nextAt, runAll the "
                + "interface says: ---- waiting runs: coils with patterns that are to be run, numbered from 0 in the "
                + "order in which they were told;");
        SlittingOffice x = Make.withCoils(7);
        Make.keep(x, 100);
        for (int i = 0; i < 7; i++) {
            Checks.due("waiting run", x.plan(6 - i, 0), i);
        }
        Make.dueBestOrder(x, 0, 1, 2, 3, 4, 5, 6);
    }

    private static void bestOrder() {
        Document.quote("Terms", "the best order of them is the one with the fewest knives that are moved, together, "
                + "from the setup as it is on, of several the one with the lesser number at the first place at which "
                + "they differ.");
        SlittingOffice x = Make.withCoils(8);
        Make.keep(x, 50);
        Make.keep(x, 50, 50);
        Make.keep(x, 50, 50, 50);
        Make.keep(x, 70, 70);
        x.plan(0, 3);
        Make.dueBestOrder(x, 0);
        x.plan(1, 0);
        // 3 + 1 knives as told, 2 + 2 the other way
        Make.dueBestOrder(x, 0, 1);
        x.plan(2, 2);
        // the run numbers stand for 70+70, 50, 50+50+50: 3 + 1 + 2 knives, and in no order less
        Checks.due("fewest without a setup", x.fewestMoves(), 6);
        Make.dueBestOrder(x, 0, 1, 2);
        x.plan(3, 1);
        // 50+50 comes with 50+50+50, or between: 3 + 1 + 2 + 0 or 3 + 1 + 1 + 1
        Checks.due("fewest of four", x.fewestMoves(), 6);
        Make.dueBestOrder(x, 0, 1, 2, 3);
        x.run(4, 2);
        // from 50+50+50 on nothing is moved down to 50, and 2 for 70+70
        Checks.due("fewest with a setup", x.fewestMoves(), 2);
        Make.dueBestOrder(x, 2, 3, 1, 0);
        x.run(5, 3);
        // from 70+70 on nothing is moved for it, and 3 for all the others
        Checks.due("fewest with another setup", x.fewestMoves(), 3);
        Make.dueBestOrder(x, 0, 1, 2, 3);
    }
}
