/** What promises 17 to 22 say of boundaries; a test for each sentence. */
final class WaitingBoundaries {
    private static final Class<? extends RuntimeException> INDEX = Checks.INDEX;
    private static final Class<? extends RuntimeException> STATE = Checks.STATE;

    private WaitingBoundaries() {
    }

    static void all() {
        plan();
        waiting();
        fewestMoves();
        fewestByTrying();
        nextAt();
        runAll();
    }

    /** Seven runs of 15 slits, the first slit of 20, 21, .. 26 mm, so that they have position 0 alone in common. */
    private static SlittingOffice withSevenGreatRuns() {
        SlittingOffice x = Make.withRules(0, 0, 16);
        Make.addCoils(x, 7);
        for (int i = 0; i < 7; i++) {
            int[] widths = Make.times(15, 20);
            widths[0] = 20 + i;
            Make.keep(x, widths);
            x.plan(i, i);
        }
        return x;
    }

    // ---- promise 17

    private static void plan() {
        p17Coil();
        p17Pattern();
        p17ReturnsNumber();
        p17NoSuchCoilOrPattern();
        p17SlitOrWaitsOrDoesNotFitOr7Wait();
    }

    private static void p17Coil() {
        Document.quote("Promise 17", "coil: a coil");
        SlittingOffice x = Make.withCoils(20);
        Make.keep(x, 100);
        Checks.due("the last one", x.plan(19, 0), 0);
        Checks.due("the first one", x.plan(0, 0), 1);
        Checks.due("runs", x.runAll(), 2);
        Checks.due("the last one's slits", x.slits(19), 1);
        Checks.due("the first one's slits", x.slits(0), 1);
        Checks.due("another one's slits", x.slits(1), Make.NONE);
    }

    private static void p17Pattern() {
        Document.quote("Promise 17", "pattern: a pattern");
        SlittingOffice x = Make.withRules(0, 0, 16);
        Make.addCoils(x, 3);
        for (int i = 0; i < 10; i++) {
            Make.keep(x, Make.times(i + 1, 20));
        }
        Checks.due("the last one", x.plan(0, 9), 0);
        Checks.due("the first one", x.plan(1, 0), 1);
        Checks.due("the last one again", x.plan(2, 9), 2);
        x.runAll();
        Checks.due("slits by the last one", x.slits(0), 10);
        Checks.due("slits by the first one", x.slits(1), 1);
        Checks.due("slits by the last one again", x.slits(2), 10);
    }

    private static void p17ReturnsNumber() {
        Document.quote("Promise 17", "Returns the number of the waiting run.");
        SlittingOffice x = Make.withCoils(9);
        Make.keep(x, 100);
        for (int i = 0; i < 7; i++) {
            Checks.due("waiting run " + i, x.plan(8 - i, 0), i);
        }
        x.runAll();
        Checks.due("0 again when none waits", x.plan(0, 0), 0);
        x.run(0, 0);
        Checks.due("1 though the coil before was slit", x.plan(1, 0), 1);
    }

    private static void p17NoSuchCoilOrPattern() {
        Document.quote("Promise 17", "Throws IndexOutOfBoundsException if there is no such coil or pattern");
        SlittingOffice x = new SlittingOffice();
        Checks.dueThrow("neither", INDEX, () -> x.plan(0, 0));
        Make.keep(x, 100);
        Checks.dueThrow("no coils", INDEX, () -> x.plan(0, 0));
        Make.addCoils(x, 9);
        x.run(0, 0);
        x.plan(1, 0);
        for (int number : Make.outside(0, 8)) {
            Checks.dueThrow("coil " + number, INDEX, () -> x.plan(number, 0));
            Checks.dueThrow("coil and pattern " + number, INDEX, () -> x.plan(number, number));
        }
        for (int number : Make.outside(0, 0)) {
            Checks.dueThrow("pattern " + number, INDEX, () -> x.plan(2, number));
            Checks.dueThrow("pattern " + number + ", the coil being slit", INDEX, () -> x.plan(0, number));
            Checks.dueThrow("pattern " + number + ", the coil waiting", INDEX, () -> x.plan(1, number));
        }
        for (int coil = 2; coil < 8; coil++) {
            x.plan(coil, 0);
        }
        Checks.dueThrow("coil 9, 7 runs waiting", INDEX, () -> x.plan(9, 0));
        Checks.dueThrow("pattern 1, 7 runs waiting", INDEX, () -> x.plan(8, 1));
    }

    private static void p17SlitOrWaitsOrDoesNotFitOr7Wait() {
        Document.quote("Promise 17", "Throws IllegalStateException if the coil is slit or waits, "
                + "the pattern does not fit it, or 7 runs wait");
        SlittingOffice x = Make.withCoils(10);
        Make.keep(x, 480);
        Make.keep(x, 481);
        Make.keep(x, Make.times(7, 20));
        Make.keep(x, Make.times(8, 20));
        x.run(0, 0);
        Checks.dueThrow("slit", STATE, () -> x.plan(0, 0));
        Checks.dueThrow("1 mm too wide", STATE, () -> x.plan(1, 1));
        Checks.dueThrow("a knife too many", STATE, () -> x.plan(1, 3));
        Checks.due("none waits", x.waiting(), 0);
        Checks.due("just as wide", x.plan(1, 0), 0);
        Checks.dueThrow("waits", STATE, () -> x.plan(1, 0));
        Checks.dueThrow("waits, by another pattern", STATE, () -> x.plan(1, 2));
        x.run(1, 0);
        Checks.dueThrow("waits, and is slit", STATE, () -> x.plan(1, 0));
        Checks.due("with all knives", x.plan(2, 2), 1);
        for (int coil = 3; coil < 7; coil++) {
            x.plan(coil, 0);
        }
        Checks.due("with 6 runs", x.plan(7, 0), 6);
        Checks.dueThrow("with 7 runs", STATE, () -> x.plan(8, 0));
        x.run(7, 0);
        Checks.dueThrow("with 7 runs, the last one's coil being slit", STATE, () -> x.plan(8, 0));
        x.setRules(10, 20, 7);
        Checks.due("those that are run", x.runAll(), 4);
        Checks.dueThrow("slit by runAll", STATE, () -> x.plan(3, 0));
        Checks.due("passed over by runAll", x.plan(2, 0), 0);
        Checks.due("the one that did not come in", x.plan(8, 0), 1);
    }

    // ---- promise 18

    private static void waiting() {
        Document.quote("Promise 18", "Returns how many runs wait.");
        SlittingOffice x = Make.withCoils(8);
        Make.keep(x, 100);
        Checks.due("none", x.waiting(), 0);
        for (int i = 0; i < 7; i++) {
            x.plan(i, 0);
            Checks.due("with one more", x.waiting(), i + 1);
        }
        Checks.dueThrow("one too many", STATE, () -> x.plan(7, 0));
        Checks.due("7 still", x.waiting(), 7);
        x.run(3, 0);
        Checks.due("7, one's coil being slit", x.waiting(), 7);
        x.setRules(100, 0, 2);
        x.runAll();
        Checks.due("none", x.waiting(), 0);
    }

    // ---- promises 19 and 20

    private static void fewestMoves() {
        Document.quote("Promise 19", "Returns how many knives are moved in the best order of the waiting runs, "
                + "found by sets of runs.");
        SlittingOffice x = Make.withCoils(3);
        Checks.due("of none", x.fewestMoves(), 0);
        Make.keep(x, 60, 60, 60);
        Make.keep(x, 60);
        Make.keep(x, 60, 60);
        Checks.due("of none, with patterns", x.fewestMoves(), 0);
        x.plan(0, 1);
        Checks.due("of one, without a setup", x.fewestMoves(), 2);
        x.plan(1, 0);
        Checks.due("of two, the wide one first or last", x.fewestMoves(), 4);
        x.run(2, 2);
        Checks.due("of two, with a setup", x.fewestMoves(), 1);
        Checks.due("none is moved by asking", x.moved(), 3);
        x.runAll();
        Checks.due("of none, with a setup", x.fewestMoves(), 0);
        SlittingOffice y = withSevenGreatRuns();
        Checks.due("of seven great ones", y.fewestMoves(), 16 + 6 * 15);
        y.runAll();
        Checks.due("as they are moved then", y.moved(), 16 + 6 * 15);
    }

    private static void fewestByTrying() {
        Document.quote("Promise 20", "Returns the same, found by trying all orders.");
        SlittingOffice x = Make.withCoils(8);
        Checks.due("of none", x.fewestByTrying(), 0);
        int[][] patterns = {{100}, {40, 60}, {20, 20, 60}, {70, 30}, {30, 40, 30}, {50, 90}, {140}};
        for (int i = 0; i < 7; i++) {
            Make.keep(x, patterns[i]);
            x.plan(i, i);
            Checks.due("of " + (i + 1), x.fewestByTrying(), x.fewestMoves());
        }
        // {50 90} {140} {30 40 30} {70 30} {20 20 60} {40 60} {100} moves each of the 8 positions' knives once
        Checks.due("of all of them", x.fewestByTrying(), 8);
        x.run(7, 5);
        Checks.due("of all of them, with a setup", x.fewestByTrying(), x.fewestMoves());
        x.runAll();
        Checks.due("of none, with a setup", x.fewestByTrying(), 0);
        Checks.due("of seven great ones", withSevenGreatRuns().fewestByTrying(), 16 + 6 * 15);
    }

    // ---- promise 21

    private static void nextAt() {
        p21RunOfBestOrder();
        p21Place();
        p21ReturnsNumber();
        p21NoSuchPlace();
    }

    private static void p21RunOfBestOrder() {
        Document.quote("Promise 21", "Returns a run of the best order.");
        SlittingOffice x = Make.withCoils(5);
        Make.keep(x, 60, 60, 60);
        Make.keep(x, 60);
        Make.keep(x, 60, 60);
        x.plan(0, 0);
        Make.dueBestOrder(x, 0);
        x.plan(1, 1);
        x.plan(2, 2);
        // 4, 0, 0 this way; 2, 1, 1 from the narrow one on; 0, 1, 2 would be 4, 0, 1
        Make.dueBestOrder(x, 0, 2, 1);
        x.run(3, 1);
        // from the narrow one: 0, 1, 1; 0, 2, 1 would be 2, 0, 0 with the same, and is the lesser one
        Make.dueBestOrder(x, 0, 2, 1);
        x.run(4, 0);
        Make.dueBestOrder(x, 0, 2, 1);
    }

    private static void p21Place() {
        Document.quote("Promise 21", "place: 0 for the one that is first");
        SlittingOffice x = Make.withCoils(8);
        Make.keep(x, 50);
        Make.keep(x, 70);
        x.run(7, 1);
        for (int i = 0; i < 7; i++) {
            x.plan(i, i < 3 ? 0 : 1);
        }
        // those of the setup come first: 1 knife is moved
        Make.dueBestOrder(x, 3, 4, 5, 6, 0, 1, 2);
        Checks.due("place 0", x.nextAt(0), 3);
        Checks.due("place 6", x.nextAt(6), 2);
    }

    private static void p21ReturnsNumber() {
        Document.quote("Promise 21", "Returns the number of the waiting run.");
        SlittingOffice x = Make.withCoils(20);
        for (int i = 0; i < 9; i++) {
            Make.keep(x, 100 + i);
        }
        x.plan(19, 8);
        Checks.due("0, not the coil's or the pattern's", x.nextAt(0), 0);
        x.runAll();
        x.plan(18, 7);
        x.plan(17, 8);
        // the setup is pattern 8
        Make.dueBestOrder(x, 1, 0);
    }

    private static void p21NoSuchPlace() {
        Document.quote("Promise 21", "Throws IndexOutOfBoundsException if there is no such place");
        SlittingOffice x = Make.withCoils(7);
        Make.keep(x, 100);
        Checks.dueThrow("0 of none", INDEX, () -> x.nextAt(0));
        Checks.dueThrow("NONE of none", INDEX, () -> x.nextAt(SlittingOffice.NONE));
        for (int i = 0; i < 7; i++) {
            x.plan(i, 0);
            Checks.due("the last place", x.nextAt(i), i);
            for (int place : Make.outside(0, i)) {
                Checks.dueThrow(place + " of " + (i + 1), INDEX, () -> x.nextAt(place));
            }
        }
        x.runAll();
        Checks.dueThrow("0 of none then", INDEX, () -> x.nextAt(0));
    }

    // ---- promise 22

    private static void runAll() {
        p22InBestOrderAsItIsNow();
        p22PassedOver();
        p22NoneWaitsThen();
        p22Returns();
    }

    private static void p22InBestOrderAsItIsNow() {
        Document.quote("Promise 22", "Runs all waiting runs in the best order, as it is now;");
        SlittingOffice x = Make.withRules(0, 0, 8);
        Make.addCoils(x, 4);
        Make.keep(x, 50);
        Make.keep(x, 70);
        x.order(50, 1);
        x.order(70, 1);
        x.plan(0, 0);
        x.plan(1, 1);
        x.plan(2, 0);
        Make.dueBestOrder(x, 0, 2, 1);
        x.run(3, 1);
        Checks.due("the order of 70 has its slit", x.delivered(1), 72);
        Make.dueBestOrder(x, 1, 0, 2);
        Checks.due("runs", x.runAll(), 3);
        Checks.due("moved as in the best order now", x.moved(), 2 + 1);
        Checks.due("coil 0 is slit before coil 2", x.slitOrder(0, 0), 0);
        Checks.due("coil 2 after it", x.slitOrder(2, 0), Make.NONE);
        Checks.due("the last one is the setup", x.moves(0), 0);
        Checks.due("and not the first one", x.moves(1), 1);
    }

    private static void p22PassedOver() {
        Document.quote("Promise 22", "those whose coil was slit meanwhile, or whose pattern does not fit any more, "
                + "are passed over when it is their turn.");
        coilWasSlitMeanwhile();
        patternDoesNotFitAnyMore();
        theirTurn();
    }

    private static void coilWasSlitMeanwhile() {
        SlittingOffice x = Make.withCoils(3);
        x.order(100, 50000);
        Make.keep(x, 100);
        Make.keep(x, 150);
        x.plan(0, 0);
        x.plan(1, 0);
        x.run(0, 1);
        Checks.due("runs", x.runAll(), 1);
        Checks.due("coil 0 as it was slit", x.slitWeight(0, 0), 150);
        Checks.due("coil 1", x.slitWeight(1, 0), 100);
        Checks.due("delivered", x.delivered(0), 100);
        Checks.due("moved", x.moved(), 3);
    }

    private static void patternDoesNotFitAnyMore() {
        SlittingOffice x = Make.withCoils(4);
        Make.keep(x, 480);
        Make.keep(x, 479);
        Make.keep(x, Make.times(7, 20));
        Make.keep(x, Make.times(6, 20));
        for (int i = 0; i < 4; i++) {
            x.plan(i, i);
        }
        x.setRules(11, 20, 7);
        Checks.due("runs with an edge of 11 and 7 knives", x.runAll(), 1);
        Checks.due("480, 2 mm too wide", x.slits(0), Make.NONE);
        Checks.due("479, 1 mm too wide", x.slits(1), Make.NONE);
        Checks.due("8 knives", x.slits(2), Make.NONE);
        Checks.due("7 knives", x.slits(3), 6);
        x.setRules(10, 20, 8);
        for (int i = 0; i < 3; i++) {
            Checks.due("it can wait again", x.plan(i, i), i);
        }
        x.setRules(0, 20, 2);
        x.setRules(10, 20, 8);
        Checks.due("runs, all fitting again", x.runAll(), 3);
    }

    /** A run that is passed over has its place in the best order, but moves no knives and is no setup. */
    private static void theirTurn() {
        SlittingOffice x = Make.withCoils(5);
        Make.keep(x, 100);
        Make.keep(x, 100, 100, 100);
        Make.keep(x, 200);
        x.plan(0, 0);
        x.plan(1, 1);
        x.plan(2, 2);
        // 2 for the first, 2 for the second, 0 for the third; 1 for the third, were the second left out
        Make.dueBestOrder(x, 0, 1, 2);
        x.setRules(10, 20, 3);
        Make.dueBestOrder(x, 0, 1, 2);
        Checks.due("fewest, with the second one", x.fewestMoves(), 4);
        Checks.due("runs", x.runAll(), 2);
        Checks.due("moved without the second one", x.moved(), 3);
        x.plan(3, 0);
        x.setRules(10, 20, 2);
        x.plan(4, 2);
        x.setRules(100, 20, 2);
        Checks.due("all run with another edge", x.runAll(), 2);
        Checks.due("the setup", x.moves(0), 0);
        Checks.due("moved", x.moved(), 4);
    }

    private static void p22NoneWaitsThen() {
        Document.quote("Promise 22", "None waits then.");
        SlittingOffice x = Make.withCoils(8);
        Make.keep(x, 480);
        x.runAll();
        Checks.due("after none", x.waiting(), 0);
        for (int i = 0; i < 7; i++) {
            x.plan(i, 0);
        }
        x.setRules(11, 20, 8);
        x.runAll();
        Checks.due("after all were passed over", x.waiting(), 0);
        Checks.due("fewestMoves", x.fewestMoves(), 0);
        Checks.due("fewestByTrying", x.fewestByTrying(), 0);
        Checks.dueThrow("nextAt(0)", INDEX, () -> x.nextAt(0));
        x.setRules(10, 20, 8);
        Checks.due("none is run later", x.runAll(), 0);
        for (int i = 0; i < 7; i++) {
            Checks.due("all can wait again", x.plan(i, 0), i);
        }
        x.runAll();
        Checks.due("after all were run", x.waiting(), 0);
    }

    private static void p22Returns() {
        Document.quote("Promise 22", "Returns how many are run.");
        SlittingOffice x = Make.withCoils(15);
        Make.keep(x, 100);
        Checks.due("none of none", x.runAll(), 0);
        x.plan(0, 0);
        Checks.due("one of one", x.runAll(), 1);
        x.plan(1, 0);
        x.run(1, 0);
        Checks.due("none of one", x.runAll(), 0);
        for (int coil = 2; coil < 9; coil++) {
            x.plan(coil, 0);
        }
        Checks.due("seven of seven", x.runAll(), 7);
        for (int coil = 9; coil < 15; coil++) {
            x.plan(coil, 0);
        }
        x.run(9, 0);
        x.run(14, 0);
        Checks.due("four of six", x.runAll(), 4);
        Checks.due("none of none then", x.runAll(), 0);
    }
}
