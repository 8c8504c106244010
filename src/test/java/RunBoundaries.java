/** What promises 14 to 16 say of boundaries; a test for each sentence. */
final class RunBoundaries {
    private static final Class<? extends RuntimeException> INDEX = Checks.INDEX;
    private static final Class<? extends RuntimeException> STATE = Checks.STATE;

    private RunBoundaries() {
    }

    static void all() {
        run();
        moves();
        moved();
    }

    // ---- promise 14

    private static void run() {
        p14CoilThatWaits();
        p14Coil();
        p14Pattern();
        p14Returns();
        p14NoSuchCoilOrPattern();
        p14SlitOrDoesNotFit();
    }

    private static void p14CoilThatWaits() {
        Document.quote("Promise 14", "(A coil that waits can be slit, too.)");
        SlittingOffice x = Make.withCoils(8);
        Make.keep(x, 100);
        Make.keep(x, 50, 50);
        for (int coil = 0; coil < 7; coil++) {
            x.plan(coil, 0);
        }
        Checks.due("by its own pattern", x.run(0, 0), 0);
        Checks.due("by another pattern", x.run(6, 1), 0);
        Checks.due("its slits", x.slits(6), 2);
        Checks.due("both wait still", x.waiting(), 7);
        Checks.dueThrow("a second time", STATE, () -> x.run(6, 0));
        Checks.due("those that are run", x.runAll(), 5);
        Checks.due("its slits still", x.slits(6), 2);
    }

    private static void p14Coil() {
        Document.quote("Promise 14", "coil: a coil");
        SlittingOffice x = Make.withCoils(20);
        Make.keep(x, 100);
        x.run(19, 0);
        Checks.due("the last one", x.slits(19), 1);
        Checks.due("the first one", x.slits(0), Make.NONE);
        x.run(0, 0);
        Checks.due("the first one then", x.slits(0), 1);
        for (int coil = 1; coil < 19; coil++) {
            Checks.due("coil " + coil + " before", x.slits(coil), Make.NONE);
            x.run(coil, 0);
            Checks.due("coil " + coil, x.slits(coil), 1);
        }
    }

    private static void p14Pattern() {
        Document.quote("Promise 14", "pattern: a pattern");
        SlittingOffice x = Make.withRules(0, 0, 16);
        Make.addCoils(x, 10);
        for (int i = 0; i < 10; i++) {
            Make.keep(x, Make.times(i == 9 ? 15 : i + 1, 20));
        }
        for (int i = 0; i < 10; i++) {
            x.run(i, i);
            Checks.due("slits by pattern " + i, x.slits(i), i == 9 ? 15 : i + 1);
        }
    }

    private static void p14Returns() {
        Document.quote("Promise 14", "Returns how many slits are delivered to orders.");
        SlittingOffice x = Make.withRules(0, 0, 16);
        for (int i = 0; i < 4; i++) {
            x.coil(300, 300, 100, 1);
        }
        x.coil(300, 1, 100, 1);
        Make.keep(x, Make.times(15, 20));
        Checks.due("none, without orders", x.run(0, 0), 0);
        x.order(20, 20 * 15 + 1);
        Checks.due("all 15", x.run(1, 0), 15);
        Checks.due("1, the order being full then", x.run(2, 0), 1);
        Checks.due("none, the order being full", x.run(3, 0), 0);
        x.order(20, 1);
        Checks.due("all 15, which weigh nothing", x.run(4, 0), 15);
    }

    private static void p14NoSuchCoilOrPattern() {
        Document.quote("Promise 14", "Throws IndexOutOfBoundsException if there is no such coil or pattern");
        SlittingOffice x = new SlittingOffice();
        Checks.dueThrow("neither", INDEX, () -> x.run(0, 0));
        Make.keep(x, 100);
        Checks.dueThrow("no coils", INDEX, () -> x.run(0, 0));
        Make.addCoils(x, 2);
        x.run(0, 0);
        for (int number : Make.outside(0, 1)) {
            Checks.dueThrow("coil " + number, INDEX, () -> x.run(number, 0));
            Checks.dueThrow("coil and pattern " + number, INDEX, () -> x.run(number, number));
        }
        for (int number : Make.outside(0, 0)) {
            Checks.dueThrow("pattern " + number, INDEX, () -> x.run(1, number));
            Checks.dueThrow("pattern " + number + ", the coil being slit", INDEX, () -> x.run(0, number));
        }
        Make.addCoils(x, 18);
        for (int i = 1; i < 10; i++) {
            Make.keep(x, 100);
        }
        Checks.dueThrow("coil 20 of 20", INDEX, () -> x.run(20, 9));
        Checks.dueThrow("pattern 10 of 10", INDEX, () -> x.run(19, 10));
        Checks.due("coil 19, pattern 9", x.run(19, 9), 0);
    }

    private static void p14SlitOrDoesNotFit() {
        Document.quote("Promise 14", "Throws IllegalStateException if the coil is slit, or the pattern does not fit it");
        SlittingOffice x = Make.withCoils(3);
        Make.keep(x, 480);
        Make.keep(x, 481);
        Make.keep(x, Make.times(7, 20));
        Make.keep(x, Make.times(8, 20));
        Checks.dueThrow("1 mm too wide", STATE, () -> x.run(0, 1));
        Checks.dueThrow("a knife too many", STATE, () -> x.run(0, 3));
        Checks.due("not slit", x.slits(0), Make.NONE);
        Checks.due("just as wide", x.run(0, 0), 0);
        Checks.due("with all knives", x.run(1, 2), 0);
        Checks.dueThrow("slit", STATE, () -> x.run(0, 0));
        Checks.dueThrow("slit, and too wide", STATE, () -> x.run(1, 1));
        x.setRules(11, 20, 8);
        Checks.dueThrow("with a greater edge", STATE, () -> x.run(2, 0));
        x.setRules(10, 20, 7);
        Checks.dueThrow("with a knife less", STATE, () -> x.run(2, 2));
        Checks.due("not slit", x.slits(2), Make.NONE);
        x.setRules(9, 20, 9);
        Checks.due("with less edge", x.run(2, 1), 0);
    }

    // ---- promise 15

    private static void moves() {
        p15MovedNow();
        p15Pattern();
        p15Returns();
        p15NoSuchPattern();
    }

    private static void p15MovedNow() {
        Document.quote("Promise 15", "Returns how many knives are moved for a pattern now.");
        SlittingOffice x = Make.withCoils(3);
        Make.keep(x, 50, 50, 50);
        Make.keep(x, 100, 50);
        Checks.due("without a setup", x.moves(0), 4);
        Checks.due("asking moves none", x.moves(0), 4);
        x.run(0, 1);
        Checks.due("now that 0, 100 and 150 are set", x.moves(0), 1);
        x.run(1, 0);
        Checks.due("now that it is the setup", x.moves(0), 0);
        Checks.due("another one, now", x.moves(1), 0);
        x.setRules(100, 0, 2);
        Checks.due("though it needs more knives than there are", x.moves(0), 0);
    }

    private static void p15Pattern() {
        Document.quote("Promise 15", "pattern: a pattern");
        SlittingOffice x = new SlittingOffice();
        for (int i = 0; i < 10; i++) {
            Make.keep(x, Make.times(i + 1, 1000));
        }
        for (int i = 0; i < 10; i++) {
            Checks.due("pattern " + i, x.moves(i), i + 2);
        }
    }

    private static void p15Returns() {
        Document.quote("Promise 15", "Returns how many.");
        SlittingOffice x = Make.withRules(0, 0, 16);
        x.coil(1000, 1000, 100, 1);
        Make.keep(x, 20);
        Make.keep(x, Make.times(15, 1000));
        Make.keep(x, Make.times(15, 20));
        Checks.due("the fewest without a setup", x.moves(0), 2);
        Checks.due("the most without a setup", x.moves(1), 16);
        x.run(0, 2);
        Checks.due("the fewest with a setup", x.moves(0), 0);
        Checks.due("the most with a setup", x.moves(1), 15);
    }

    private static void p15NoSuchPattern() {
        Document.quote("Promise 15", "Throws IndexOutOfBoundsException if there is no such pattern");
        SlittingOffice x = Make.withCoils(1);
        Checks.dueThrow("without patterns", INDEX, () -> x.moves(0));
        x.addSlit(20);
        Checks.dueThrow("the draft is none", INDEX, () -> x.moves(0));
        Checks.dueThrow("NONE", INDEX, () -> x.moves(SlittingOffice.NONE));
        x.keep();
        for (int pattern : Make.outside(0, 0)) {
            Checks.dueThrow("pattern " + pattern, INDEX, () -> x.moves(pattern));
        }
        x.run(0, 0);
        Checks.dueThrow("NONE with a setup", INDEX, () -> x.moves(SlittingOffice.NONE));
        for (int i = 1; i < 10; i++) {
            Make.keep(x, 20);
        }
        for (int pattern : Make.outside(0, 9)) {
            Checks.dueThrow("pattern " + pattern + " with 10", INDEX, () -> x.moves(pattern));
        }
    }

    // ---- promise 16

    private static void moved() {
        Document.quote("Promise 16", "Returns how many knives have been moved by all runs.");
        SlittingOffice x = Make.withRules(0, 0, 16);
        Make.addCoils(x, 20);
        Make.keep(x, Make.times(15, 20));
        Make.keep(x, Make.times(15, 31));
        Checks.due("before any run", x.moved(), 0);
        x.plan(19, 0);
        Checks.due("while a run waits", x.moved(), 0);
        x.run(0, 0);
        Checks.due("by the first run", x.moved(), 16);
        Checks.dueThrow("a run that is refused", STATE, () -> x.run(0, 1));
        Checks.due("not by one that is refused", x.moved(), 16);
        x.run(1, 0);
        Checks.due("none by the same pattern", x.moved(), 16);
        for (int coil = 2; coil < 19; coil++) {
            x.run(coil, coil % 2 == 0 ? 1 : 0);
            Checks.due("15 by another one each time", x.moved(), 16 + 15 * (coil - 1));
        }
        x.runAll();
        Checks.due("by the one that waited", x.moved(), 16 + 15 * 18);
        x.runAll();
        Checks.due("none by none", x.moved(), 16 + 15 * 18);
    }
}
