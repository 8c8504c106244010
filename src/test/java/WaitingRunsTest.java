/** Promises 17 to 22. */
public final class WaitingRunsTest {
    public static void main(String[] args) {
        planNumbers();
        planArguments();
        planStates();
        bestOrder();
        eachAsksForItself();
        ordersThatCostTheSame();
        bestOrderFromSetup();
        placesAreLookedAt();
        runAllInBestOrder();
        runAllPassesOver();
        planAfterRunAll();
        Checks.finish();
    }

    private static SlittingOffice withCoils(int count) {
        SlittingOffice x = new SlittingOffice();
        for (int i = 0; i < count; i++) {
            x.coil(500, 520, 100, 1);
        }
        return x;
    }

    private static void keep(SlittingOffice x, int... widths) {
        for (int width : widths) {
            x.addSlit(width);
        }
        x.keep();
    }

    private static void dueOrder(String what, SlittingOffice x, int... runs) {
        Checks.due(what + ": runs", x.waiting(), runs.length);
        for (int place = 0; place < runs.length && place < x.waiting(); place++) {
            Checks.due(what + ": nextAt(" + place + ")", x.nextAt(place), runs[place]);
        }
    }

    private static void planNumbers() {
        SlittingOffice x = withCoils(8);
        keep(x, 100);
        for (int i = 0; i < 7; i++) {
            Checks.due("plan", x.plan(7 - i, 0), i);
            Checks.due("waiting", x.waiting(), i + 1);
        }
        Checks.dueThrow("8th waiting run", Checks.STATE, () -> x.plan(0, 0));
        Checks.due("waiting still", x.waiting(), 7);
    }

    private static void planArguments() {
        SlittingOffice x = withCoils(1);
        keep(x, 100);
        Checks.dueThrow("coil -1", Checks.INDEX, () -> x.plan(-1, 0));
        Checks.dueThrow("coil 1", Checks.INDEX, () -> x.plan(1, 0));
        Checks.dueThrow("pattern -1", Checks.INDEX, () -> x.plan(0, -1));
        Checks.dueThrow("pattern 1", Checks.INDEX, () -> x.plan(0, 1));
        Checks.due("none waits", x.waiting(), 0);
    }

    private static void planStates() {
        SlittingOffice x = withCoils(3);
        keep(x, 100);
        keep(x, 481);
        Checks.dueThrow("does not fit", Checks.STATE, () -> x.plan(0, 1));
        x.plan(0, 0);
        Checks.dueThrow("waits already", Checks.STATE, () -> x.plan(0, 0));
        x.run(1, 0);
        Checks.dueThrow("slit already", Checks.STATE, () -> x.plan(1, 0));
        Checks.due("a coil that waits can be slit, too", x.run(0, 0), 0);
        Checks.due("its run still waits", x.waiting(), 1);
        Checks.due("it is the best order's run", x.nextAt(0), 0);
        Checks.due("the next one", x.plan(2, 0), 1);
    }

    private static void bestOrder() {
        SlittingOffice x = withCoils(3);
        keep(x, 100);
        keep(x, 300);
        keep(x, 100, 200);
        x.plan(0, 0);
        x.plan(1, 1);
        x.plan(2, 2);
        // all 3 knives for the third run, then none
        Checks.due("fewestMoves", x.fewestMoves(), 3);
        Checks.due("fewestByTrying", x.fewestByTrying(), 3);
        // 0, 2, 1 moves 2 + 1 + 0, too
        dueOrder("best order", x, 0, 2, 1);
        Checks.due("nothing is run by asking", x.moved(), 0);
    }

    private static void eachAsksForItself() {
        Checks.due("fewestByTrying alone", threeRuns().fewestByTrying(), 4);
        Checks.due("fewestMoves alone", threeRuns().fewestMoves(), 4);
        Checks.due("nextAt(0) alone", threeRuns().nextAt(0), 0);
        Checks.due("nextAt(1) alone", threeRuns().nextAt(1), 2);
        Checks.due("nextAt(2) alone", threeRuns().nextAt(2), 1);
        SlittingOffice x = threeRuns();
        x.runAll();
        Checks.due("runAll alone", x.moved(), 4);
    }

    /** Best from wide to narrow, 4 and no more; the other way is 2 and 1 and 1, but comes later. */
    private static SlittingOffice threeRuns() {
        SlittingOffice x = withCoils(3);
        keep(x, 60, 60, 60);
        keep(x, 60);
        keep(x, 60, 60);
        for (int i = 0; i < 3; i++) {
            x.plan(i, i);
        }
        return x;
    }

    private static void ordersThatCostTheSame() {
        SlittingOffice x = withCoils(7);
        keep(x, 100, 100);
        for (int coil = 6; coil >= 0; coil--) {
            x.plan(coil, 0);
        }
        Checks.due("fewestMoves", x.fewestMoves(), 3);
        Checks.due("fewestByTrying", x.fewestByTrying(), 3);
        dueOrder("equal runs", x, 0, 1, 2, 3, 4, 5, 6);
    }

    private static void bestOrderFromSetup() {
        SlittingOffice x = withCoils(4);
        keep(x, 100);
        keep(x, 50, 50);
        keep(x, 50, 70);
        x.plan(0, 0);
        x.plan(1, 1);
        Checks.due("without a setup", x.fewestMoves(), 3);
        dueOrder("without a setup", x, 0, 1);
        x.run(2, 2);
        // from 0, 50, 120: 1 for 0, 50, 100, then none; the other way 1 + 1
        Checks.due("with a setup", x.fewestMoves(), 1);
        Checks.due("with a setup, by trying", x.fewestByTrying(), 1);
        dueOrder("with a setup", x, 1, 0);
    }

    private static void placesAreLookedAt() {
        SlittingOffice x = withCoils(2);
        keep(x, 100);
        Checks.dueThrow("none waits", Checks.INDEX, () -> x.nextAt(0));
        x.plan(0, 0);
        x.plan(1, 0);
        Checks.due("place 1", x.nextAt(1), 1);
        Checks.dueThrow("place 2", Checks.INDEX, () -> x.nextAt(2));
        Checks.dueThrow("place 7", Checks.INDEX, () -> x.nextAt(7));
        Checks.dueThrow("place -1", Checks.INDEX, () -> x.nextAt(-1));
        Checks.dueThrow("place least", Checks.INDEX, () -> x.nextAt(Integer.MIN_VALUE));
        x.runAll();
        Checks.dueThrow("none waits then", Checks.INDEX, () -> x.nextAt(0));
    }

    private static void runAllInBestOrder() {
        SlittingOffice x = withCoils(4);
        x.order(100, 1);
        keep(x, 100);
        keep(x, 50, 50);
        keep(x, 50, 70);
        x.run(2, 2);
        x.plan(0, 0);
        x.plan(1, 1);
        x.plan(3, 0);
        Checks.due("runs", x.runAll(), 3);
        Checks.due("moved 3, and 1 by them", x.moved(), 4);
        Checks.due("none waits then", x.waiting(), 0);
        Checks.due("coil 0", x.slits(0), 1);
        Checks.due("coil 1", x.slits(1), 2);
        Checks.due("coil 3", x.slits(3), 1);
        Checks.due("the one run first fills the order", x.slitOrder(0, 0), 0);
        Checks.due("the one run later does not", x.slitOrder(3, 0), SlittingOffice.NONE);
        Checks.due("the last run is the setup", x.moves(1), 1);
        Checks.due("runAll again", x.runAll(), 0);
    }

    private static void runAllPassesOver() {
        SlittingOffice x = withCoils(4);
        keep(x, 100);
        keep(x, 100, 100, 100);
        keep(x, 200);
        x.plan(0, 0);
        x.plan(1, 1);
        x.plan(2, 2);
        x.run(2, 0);
        x.setRules(10, 20, 3);
        // the best order has all three runs: 0 moves, 2 moves, 0 moves
        Checks.due("fewestMoves with all that wait", x.fewestMoves(), 2);
        Checks.due("runs", x.runAll(), 1);
        Checks.due("none waits then", x.waiting(), 0);
        Checks.due("coil 0", x.slits(0), 1);
        Checks.due("coil 1, too few knives", x.slits(1), SlittingOffice.NONE);
        Checks.due("coil 2 as it was slit", x.slits(2), 1);
        Checks.due("moved", x.moved(), 2);
    }

    private static void planAfterRunAll() {
        SlittingOffice x = withCoils(9);
        keep(x, 100);
        for (int coil = 0; coil < 7; coil++) {
            x.plan(coil, 0);
        }
        Checks.due("seven runs", x.runAll(), 7);
        Checks.due("numbers begin again", x.plan(7, 0), 0);
        Checks.due("and go on", x.plan(8, 0), 1);
        Checks.dueThrow("the coil is slit", Checks.STATE, () -> x.plan(0, 0));
    }
}
