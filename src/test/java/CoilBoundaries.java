/** What promises 2 to 4 say of boundaries; a test for each sentence. */
final class CoilBoundaries {
    private static final Class<? extends RuntimeException> INDEX = Checks.INDEX;
    private static final Class<? extends RuntimeException> ARGUMENT = Checks.ARGUMENT;
    private static final Class<? extends RuntimeException> STATE = Checks.STATE;

    private CoilBoundaries() {
    }

    static void all() {
        coil();
        defect();
        setRules();
    }

    // ---- promise 2

    private static void coil() {
        p2Width();
        p2Weight();
        p2Length();
        p2Heat();
        p2ReturnsNumber();
        p2OutOfRange();
        p2ThereAre20();
    }

    private static void p2Width() {
        Document.quote("Promise 2", "width: 100 to 2000");
        SlittingOffice x = Make.withRules(0, 0, 3);
        Checks.due("100", x.coil(100, 500, 50, 5), 0);
        Checks.due("2000", x.coil(2000, 500, 50, 5), 1);
        for (int width : Make.outside(100, 2000)) {
            Checks.dueThrow("width " + width, ARGUMENT, () -> x.coil(width, 500, 50, 5));
        }
        Make.keep(x, 100);
        Make.keep(x, 101);
        Make.keep(x, 1000, 1000);
        Checks.due("100 of 100 mm", x.fits(0, 0), true);
        Checks.due("101 of 100 mm", x.fits(1, 0), false);
        Checks.due("2000 of 2000 mm", x.fits(2, 1), true);
    }

    private static void p2Weight() {
        Document.quote("Promise 2", "weight: 1 to 30000");
        SlittingOffice x = Make.withRules(0, 0, 3);
        Checks.due("1", x.coil(500, 1, 50, 5), 0);
        Checks.due("30000", x.coil(500, 30000, 50, 5), 1);
        for (int weight : Make.outside(1, 30000)) {
            Checks.dueThrow("weight " + weight, ARGUMENT, () -> x.coil(500, weight, 50, 5));
        }
        Make.keep(x, 500);
        x.run(0, 0);
        x.run(1, 0);
        Checks.due("1 kg", x.slitWeight(0, 0), 1);
        Checks.due("30000 kg", x.slitWeight(1, 0), 30000);
    }

    private static void p2Length() {
        Document.quote("Promise 2", "length: 10 to 5000");
        SlittingOffice x = new SlittingOffice();
        Checks.due("10", x.coil(500, 500, 10, 5), 0);
        Checks.due("5000", x.coil(500, 500, 5000, 5), 1);
        for (int length : Make.outside(10, 5000)) {
            Checks.dueThrow("length " + length, ARGUMENT, () -> x.coil(500, 500, length, 5));
        }
        Checks.due("10 m", x.defect(0, 0, 10), 10);
        Checks.due("5000 m", x.defect(1, 0, 5000), 5000);
    }

    private static void p2Heat() {
        Document.quote("Promise 2", "heat: 1 to 99");
        SlittingOffice x = new SlittingOffice();
        Checks.due("1", x.coil(500, 500, 50, 1), 0);
        Checks.due("99", x.coil(500, 500, 50, 99), 1);
        for (int heat : Make.outside(1, 99)) {
            Checks.dueThrow("heat " + heat, ARGUMENT, () -> x.coil(500, 500, 50, heat));
        }
        x.order(100, 50000);
        x.order(100, 50000);
        Make.keep(x, 100);
        x.run(1, 0);
        x.run(0, 0);
        Checks.due("heat 99", x.heatOf(0), 99);
        Checks.due("heat 1", x.heatOf(1), 1);
    }

    private static void p2ReturnsNumber() {
        Document.quote("Promise 2", "Returns its number.");
        SlittingOffice x = new SlittingOffice();
        for (int i = 0; i < 20; i++) {
            Checks.dueThrow("a coil of no width", ARGUMENT, () -> x.coil(0, 500, 50, 5));
            Checks.due("number of one more", x.coil(500, 500, 50, 5), i);
        }
    }

    private static void p2OutOfRange() {
        Document.quote("Promise 2", "Throws IllegalArgumentException if width, weight, length or heat is out of range");
        SlittingOffice x = new SlittingOffice();
        int[][] wrong = {
            {99, 1, 10, 1}, {100, 0, 10, 1}, {100, 1, 9, 1}, {100, 1, 10, 0},
            {2001, 30000, 5000, 99}, {2000, 30001, 5000, 99}, {2000, 30000, 5001, 99}, {2000, 30000, 5000, 100},
            {0, 0, 0, 0}, {-100, -1, -10, -1},
        };
        for (int[] w : wrong) {
            Checks.dueThrow("coil " + w[0] + " " + w[1] + " " + w[2] + " " + w[3], ARGUMENT,
                    () -> x.coil(w[0], w[1], w[2], w[3]));
        }
        Checks.dueThrow("coil 0, after these", INDEX, () -> x.slits(0));
        Make.addCoils(x, 20);
        for (int[] w : wrong) {
            Checks.dueThrow("a 21st coil " + w[0] + " " + w[1] + " " + w[2] + " " + w[3], ARGUMENT,
                    () -> x.coil(w[0], w[1], w[2], w[3]));
        }
    }

    private static void p2ThereAre20() {
        Document.quote("Promise 2", "Throws IllegalStateException if there are 20 coils");
        SlittingOffice x = new SlittingOffice();
        Make.addCoils(x, 19);
        Checks.due("with 19", x.coil(100, 1, 10, 1), 19);
        Checks.dueThrow("with 20", STATE, () -> x.coil(100, 1, 10, 1));
        Make.keep(x, 80);
        x.run(19, 0);
        Checks.dueThrow("with 20, one being slit", STATE, () -> x.coil(2000, 30000, 5000, 99));
        Checks.dueThrow("coil 20", INDEX, () -> x.slits(20));
    }

    // ---- promise 3

    private static void defect() {
        p3Coil();
        p3From();
        p3To();
        p3Returns();
        p3NoSuchCoil();
        p3OutOfRange();
        p3SlitOr8Defects();
    }

    private static void p3Coil() {
        Document.quote("Promise 3", "coil: a coil");
        SlittingOffice x = Make.withCoils(20);
        Checks.due("the first one", x.defect(0, 0, 3), 3);
        Checks.due("the last one has its own", x.defect(19, 10, 11), 1);
        Checks.due("the first one once more", x.defect(0, 0, 4), 4);
        Make.keep(x, 100);
        x.plan(1, 0);
        Checks.due("one that waits", x.defect(1, 0, 100), 100);
    }

    private static void p3From() {
        Document.quote("Promise 3", "from: 0 to its length less 1");
        SlittingOffice x = new SlittingOffice();
        x.coil(500, 500, 10, 1);
        x.coil(500, 500, 5000, 1);
        Checks.due("0", x.defect(0, 0, 1), 1);
        Checks.due("9 of 10", x.defect(0, 9, 10), 2);
        Checks.due("4999 of 5000", x.defect(1, 4999, 5000), 1);
        Checks.due("10 of 5000", x.defect(1, 10, 11), 2);
        for (int from : Make.outside(0, 9)) {
            Checks.dueThrow(from + " of 10", ARGUMENT, () -> x.defect(0, from, 10));
            Checks.dueThrow(from + " of 10, and one more", ARGUMENT, () -> x.defect(0, from, from + 1));
        }
    }

    private static void p3To() {
        Document.quote("Promise 3", "to: from and 1, together, to its length: its end, not included");
        SlittingOffice x = new SlittingOffice();
        x.coil(500, 500, 10, 1);
        x.coil(500, 500, 5000, 1);
        Checks.due("3 to 4", x.defect(0, 3, 4), 1);
        Checks.due("4 to 5", x.defect(0, 4, 5), 2);
        Checks.due("3 to 5", x.defect(0, 3, 5), 2);
        Checks.due("9 to 10 of 10", x.defect(0, 9, 10), 3);
        Checks.due("0 to 10 of 10", x.defect(0, 0, 10), 10);
        Checks.due("0 to 5000 of 5000", x.defect(1, 0, 5000), 5000);
        for (int to : new int[] {5, 4, 0, -1, 11, Integer.MIN_VALUE, Integer.MAX_VALUE}) {
            Checks.dueThrow("5 to " + to + " of 10", ARGUMENT, () -> x.defect(0, 5, to));
        }
        Checks.dueThrow("0 to 0 of 10", ARGUMENT, () -> x.defect(0, 0, 0));
        Checks.dueThrow("9 to 9 of 10", ARGUMENT, () -> x.defect(0, 9, 9));
        Checks.dueThrow("9 to 11 of 10", ARGUMENT, () -> x.defect(0, 9, 11));
        Checks.dueThrow("0 to 5001 of 5000", ARGUMENT, () -> x.defect(1, 0, 5001));
    }

    private static void p3Returns() {
        Document.quote("Promise 3", "Returns the cut-out length of the coil then.");
        SlittingOffice x = new SlittingOffice();
        x.coil(500, 500, 10, 1);
        int[][] fromToDue = {
            {4, 6, 2}, {2, 5, 4}, {8, 9, 5}, {0, 1, 6}, {6, 7, 7}, {1, 2, 8}, {3, 10, 10}, {0, 10, 10},
        };
        for (int[] d : fromToDue) {
            Checks.due(d[0] + " to " + d[1], x.defect(0, d[0], d[1]), d[2]);
        }
    }

    private static void p3NoSuchCoil() {
        Document.quote("Promise 3", "Throws IndexOutOfBoundsException if there is no such coil");
        SlittingOffice x = new SlittingOffice();
        Checks.dueThrow("without coils", INDEX, () -> x.defect(0, 0, 1));
        Make.addCoils(x, 2);
        for (int coil : Make.outside(0, 1)) {
            Checks.dueThrow("coil " + coil, INDEX, () -> x.defect(coil, 0, 1));
            Checks.dueThrow("coil " + coil + ", from -1", INDEX, () -> x.defect(coil, -1, 1));
            Checks.dueThrow("coil " + coil + ", to 0", INDEX, () -> x.defect(coil, 0, 0));
        }
        Make.addCoils(x, 18);
        Checks.dueThrow("coil 20 of 20", INDEX, () -> x.defect(20, 0, 1));
    }

    private static void p3OutOfRange() {
        Document.quote("Promise 3", "Throws IllegalArgumentException if from or to is out of range");
        SlittingOffice x = Make.withCoils(3);
        Make.keep(x, 100);
        x.run(1, 0);
        for (int i = 0; i < 8; i++) {
            x.defect(2, i, i + 1);
        }
        int[][] wrong = {{-1, 50}, {100, 101}, {100, 100}, {0, 0}, {50, 50}, {50, 49}, {0, 101}, {99, 101},
            {Integer.MAX_VALUE, Integer.MIN_VALUE}, {Integer.MAX_VALUE, 50}, {Integer.MIN_VALUE, 50}};
        for (int[] w : wrong) {
            String what = w[0] + " to " + w[1];
            Checks.dueThrow(what, ARGUMENT, () -> x.defect(0, w[0], w[1]));
            Checks.dueThrow(what + " of a coil that is slit", ARGUMENT, () -> x.defect(1, w[0], w[1]));
            Checks.dueThrow(what + " of one with 8 defects", ARGUMENT, () -> x.defect(2, w[0], w[1]));
        }
        Checks.due("no defect by these", x.defect(0, 0, 1), 1);
    }

    private static void p3SlitOr8Defects() {
        Document.quote("Promise 3", "Throws IllegalStateException if the coil is slit, or has 8 defects");
        SlittingOffice x = Make.withCoils(3);
        Make.keep(x, 100);
        x.run(1, 0);
        Checks.dueThrow("slit, without defects", STATE, () -> x.defect(1, 0, 1));
        Checks.due("none of it is cut out", x.lost(1, 1), 0);
        for (int i = 0; i < 7; i++) {
            Checks.due("the same metre again", x.defect(0, 50, 51), 1);
        }
        Checks.due("with 7 defects", x.defect(0, 99, 100), 2);
        Checks.dueThrow("with 8 defects", STATE, () -> x.defect(0, 0, 1));
        Checks.dueThrow("with 8 defects, one of them again", STATE, () -> x.defect(0, 50, 51));
        x.run(0, 0);
        Checks.dueThrow("slit, and with 8 defects", STATE, () -> x.defect(0, 0, 1));
        Checks.due("2 of 100 m of 500 kg", x.lost(0, 1), 10);
        Checks.due("another coil has none", x.defect(2, 0, 1), 1);
    }

    // ---- promise 4

    private static void setRules() {
        p4Edge();
        p4Loss();
        p4Knives();
        p4Returns();
        p4OutOfRange();
    }

    private static void p4Edge() {
        Document.quote("Promise 4", "edge: 0 to 100");
        SlittingOffice x = new SlittingOffice();
        x.coil(1000, 500, 50, 5);
        Make.keep(x, 1000);
        Make.keep(x, 800);
        Make.keep(x, 801);
        x.setRules(0, 0, 2);
        Checks.due("1000 of 1000 with 0", x.fits(0, 0), true);
        x.setRules(100, 0, 2);
        Checks.due("800 of 1000 with 100", x.fits(1, 0), true);
        Checks.due("801 of 1000 with 100", x.fits(2, 0), false);
        for (int edge : Make.outside(0, 100)) {
            Checks.dueThrow("edge " + edge, ARGUMENT, () -> x.setRules(edge, 0, 2));
        }
        Checks.due("the edge then", x.setRules(0, 0, 2), 100);
    }

    private static void p4Loss() {
        Document.quote("Promise 4", "loss: 0 to 500");
        SlittingOffice x = new SlittingOffice();
        x.coil(1000, 501, 50, 5);
        x.coil(1000, 501, 50, 5);
        x.coil(1000, 501, 50, 5);
        Make.keep(x, 800);
        x.setRules(100, 0, 2);
        x.run(0, 0);
        Checks.due("inner turns with 0", x.lost(0, 0), 0);
        x.setRules(100, 500, 2);
        x.run(1, 0);
        Checks.due("inner turns with 500", x.lost(1, 0), 500);
        Checks.due("inner turns of the coil before", x.lost(0, 0), 0);
        for (int loss : Make.outside(0, 500)) {
            Checks.dueThrow("loss " + loss, ARGUMENT, () -> x.setRules(100, loss, 2));
        }
        x.run(2, 0);
        Checks.due("inner turns with 500 still", x.lost(2, 0), 500);
    }

    private static void p4Knives() {
        Document.quote("Promise 4", "knives: 2 to 16");
        SlittingOffice x = new SlittingOffice();
        x.coil(1000, 501, 50, 5);
        Make.keep(x, 20);
        Make.keep(x, 20, 20);
        Make.keep(x, Make.times(15, 20));
        x.setRules(0, 0, 2);
        Checks.due("2 knives with 2", x.fits(0, 0), true);
        Checks.due("3 knives with 2", x.fits(1, 0), false);
        x.setRules(0, 0, 16);
        Checks.due("16 knives with 16", x.fits(2, 0), true);
        for (int knives : Make.outside(2, 16)) {
            Checks.dueThrow("knives " + knives, ARGUMENT, () -> x.setRules(0, 0, knives));
        }
        Checks.due("16 knives still", x.fits(2, 0), true);
    }

    private static void p4Returns() {
        Document.quote("Promise 4", "Returns the edge before.");
        SlittingOffice x = new SlittingOffice();
        Checks.due("at first", x.setRules(0, 500, 16), 10);
        Checks.due("0", x.setRules(100, 500, 16), 0);
        Checks.due("100", x.setRules(100, 0, 2), 100);
        Checks.due("100, set once more", x.setRules(1, 20, 8), 100);
        Checks.dueThrow("99, but refused", ARGUMENT, () -> x.setRules(99, 501, 8));
        Checks.due("1, the last one that was set", x.setRules(10, 20, 8), 1);
    }

    private static void p4OutOfRange() {
        Document.quote("Promise 4", "Throws IllegalArgumentException if edge, loss or knives is out of range");
        SlittingOffice x = new SlittingOffice();
        x.coil(220, 1000, 100, 1);
        Make.keep(x, 200);
        Make.keep(x, Make.times(7, 20));
        int[][] wrong = {{-1, 0, 2}, {0, -1, 2}, {0, 0, 1}, {101, 500, 16}, {100, 501, 16}, {100, 500, 17},
            {-1, -1, -1}, {0, 0, 0}, {101, 501, 17}};
        for (int[] w : wrong) {
            Checks.dueThrow("setRules " + w[0] + " " + w[1] + " " + w[2], ARGUMENT,
                    () -> x.setRules(w[0], w[1], w[2]));
        }
        Checks.due("the edge is 10 still", x.fits(0, 0), true);
        Checks.due("there are 8 knives still", x.fits(1, 0), true);
        x.run(0, 0);
        Checks.due("the loss is 20 still", x.lost(0, 0), 20);
        Checks.due("the edge", x.setRules(0, 0, 2), 10);
    }
}
