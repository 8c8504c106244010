import java.util.ArrayList;
import java.util.List;
import java.util.function.Supplier;

/** What 'Exceptions' says: a test for each sentence, over all methods that can throw. */
final class ThrowBoundaries {
    private static final Class<? extends RuntimeException> INDEX = Checks.INDEX;
    private static final Class<? extends RuntimeException> ARGUMENT = Checks.ARGUMENT;
    private static final Class<? extends RuntimeException> STATE = Checks.STATE;

    private interface Use {
        long of(SlittingOffice x);
    }

    /** A call that throws; its first and only line that applies, or the first one of several. */
    private static final class Wrong {
        final String what;
        final Class<? extends RuntimeException> due;
        final Use call;

        Wrong(String what, Class<? extends RuntimeException> due, Use call) {
            this.what = what;
            this.due = due;
            this.call = call;
        }
    }

    private ThrowBoundaries() {
    }

    static void all() {
        Document.quote("Terms", "IndexOutOfBoundsException: there is no such coil, pattern, order, slit or place.");
        dueThrows(index());
        Document.quote("Terms", "IllegalArgumentException: another argument is out of range.");
        dueThrows(argument());
        Document.quote("Terms", "IllegalStateException: as the method says.");
        dueThrows(state());
        Document.quote("Terms", "The first line of a method's throws clause that applies decides;");
        dueThrows(firstLineDecides());
        Document.quote("Terms", "a call that throws changes nothing.");
        List<Wrong> everyOne = index();
        everyOne.addAll(argument());
        everyOne.addAll(state());
        everyOne.addAll(firstLineDecides());
        for (Wrong wrong : everyOne) {
            dueUnchanged(wrong, ThrowBoundaries::full);
            dueUnchanged(wrong, ThrowBoundaries::begun);
            dueUnchanged(wrong, SlittingOffice::new);
        }
        dueUnchanged(new Wrong("keep of a draft without slits", STATE, SlittingOffice::keep), ThrowBoundaries::withoutDraft);
    }

    private static void dueThrows(List<Wrong> calls) {
        for (Wrong wrong : calls) {
            SlittingOffice x = full();
            Checks.dueThrow(wrong.what, wrong.due, () -> wrong.call.of(x));
        }
    }

    /** Where the call throws, the office has to look like its twin that was not called. */
    private static void dueUnchanged(Wrong wrong, Supplier<SlittingOffice> made) {
        SlittingOffice x = made.get();
        if (!doesThrow(wrong, x)) {
            return;
        }
        int[] widths = {20, 21, 40, 100, 120};
        List<String> due = Look.at(made.get(), widths);
        List<String> got = Look.at(x, widths);
        for (int i = 0; i < due.size() && i < got.size(); i++) {
            if (!due.get(i).equals(got.get(i))) {
                Checks.complain("after " + wrong.what + ", " + got.get(i) + ", due is " + due.get(i));
                return;
            }
        }
        Checks.due("answers that are looked at after " + wrong.what, got.size(), due.size());
    }

    private static boolean doesThrow(Wrong wrong, SlittingOffice x) {
        try {
            wrong.call.of(x);
            return false;
        } catch (RuntimeException e) {
            Checks.due(wrong.what + " throws an exception of the document", Checks.isOfDocument(e), true);
            return true;
        }
    }

    /** All full: 20 coils, 12 orders, 10 patterns, 15 slits, 7 runs; coil 0 is slit, coil 1 has 8 defects and waits. */
    private static SlittingOffice full() {
        SlittingOffice x = begun();
        for (int i = 4; i < 20; i++) {
            x.coil(400, 420, 100, 1);
        }
        for (int i = 3; i < 12; i++) {
            x.order(100 + i, 7);
        }
        x.clearDraft();
        for (int i = 4; i < 10; i++) {
            Make.keep(x, 40, 20 + i);
        }
        Make.addSlits(x, Make.times(15, 21));
        for (int i = 1; i < 8; i++) {
            x.defect(1, 10 * i, 10 * i + 3);
        }
        for (int coil = 2; coil < 8; coil++) {
            x.plan(coil, 0);
        }
        return x;
    }

    /** Some of all; coil 0 is slit by the pattern 0, coil 1 waits; the pattern 1 does not fit, 2 has a knife too many. */
    private static SlittingOffice begun() {
        SlittingOffice x = Make.withRules(5, 30, 9);
        x.coil(400, 430, 100, 1);
        x.coil(400, 430, 100, 1);
        x.coil(400, 430, 100, 2);
        x.coil(400, 430, 100, 2);
        x.order(100, 150);
        x.order(120, 50000);
        x.order(100, 50000);
        Make.keep(x, 100, 120);
        Make.keep(x, 200, 191);
        Make.keep(x, Make.times(9, 40));
        Make.keep(x, Make.times(8, 40));
        Make.addSlits(x, 40, 20);
        x.defect(1, 90, 95);
        x.run(0, 0);
        x.plan(1, 3);
        return x;
    }

    private static SlittingOffice withoutDraft() {
        SlittingOffice x = begun();
        x.clearDraft();
        return x;
    }

    private static List<Wrong> index() {
        List<Wrong> calls = new ArrayList<>();
        for (int n : Make.outside(0, 19)) {
            calls.add(new Wrong("defect of coil " + n, INDEX, x -> x.defect(n, 0, 1)));
            calls.add(new Wrong("fits, coil " + n, INDEX, x -> x.fits(0, n) ? 1 : 0));
            calls.add(new Wrong("fill of coil " + n, INDEX, x -> x.fill(n)));
            calls.add(new Wrong("fullestByTrying of coil " + n, INDEX, x -> x.fullestByTrying(n)));
            calls.add(new Wrong("run of coil " + n, INDEX, x -> x.run(n, 0)));
            calls.add(new Wrong("plan of coil " + n, INDEX, x -> x.plan(n, 0)));
            calls.add(new Wrong("slits of coil " + n, INDEX, x -> x.slits(n)));
            calls.add(new Wrong("slitWeight of coil " + n, INDEX, x -> x.slitWeight(n, 0)));
            calls.add(new Wrong("slitOrder of coil " + n, INDEX, x -> x.slitOrder(n, 0)));
            calls.add(new Wrong("lost of coil " + n, INDEX, x -> x.lost(n, 0)));
        }
        for (int n : Make.outside(0, 9)) {
            calls.add(new Wrong("fits, pattern " + n, INDEX, x -> x.fits(n, 0) ? 1 : 0));
            calls.add(new Wrong("run by pattern " + n, INDEX, x -> x.run(8, n)));
            calls.add(new Wrong("moves of pattern " + n, INDEX, x -> x.moves(n)));
            calls.add(new Wrong("plan by pattern " + n, INDEX, x -> x.plan(8, n)));
        }
        for (int n : Make.outside(0, 11)) {
            calls.add(new Wrong("delivered, order " + n, INDEX, x -> x.delivered(n)));
            calls.add(new Wrong("heatOf order " + n, INDEX, x -> x.heatOf(n)));
        }
        for (int n : Make.outside(0, 14)) {
            calls.add(new Wrong("draftWidth of slit " + n, INDEX, x -> x.draftWidth(n)));
        }
        for (int n : Make.outside(0, 1)) {
            calls.add(new Wrong("slitWeight of slit " + n, INDEX, x -> x.slitWeight(0, n)));
            calls.add(new Wrong("slitOrder of slit " + n, INDEX, x -> x.slitOrder(0, n)));
        }
        calls.add(new Wrong("slitWeight of a coil that is not slit", INDEX, x -> x.slitWeight(1, 0)));
        calls.add(new Wrong("slitOrder of a coil that is not slit", INDEX, x -> x.slitOrder(1, 0)));
        for (int n : Make.outside(0, 6)) {
            calls.add(new Wrong("nextAt place " + n, INDEX, x -> x.nextAt(n)));
        }
        return calls;
    }

    private static List<Wrong> argument() {
        List<Wrong> calls = new ArrayList<>();
        for (int n : Make.outside(0, 99)) {
            calls.add(new Wrong("defect from " + n, ARGUMENT, x -> x.defect(8, n, 100)));
        }
        for (int n : Make.outside(51, 100)) {
            calls.add(new Wrong("defect from 50 to " + n, ARGUMENT, x -> x.defect(8, 50, n)));
        }
        for (int n : Make.outside(0, 100)) {
            calls.add(new Wrong("setRules, edge " + n, ARGUMENT, x -> x.setRules(n, 0, 2)));
        }
        for (int n : Make.outside(0, 500)) {
            calls.add(new Wrong("setRules, loss " + n, ARGUMENT, x -> x.setRules(0, n, 2)));
        }
        for (int n : Make.outside(2, 16)) {
            calls.add(new Wrong("setRules, knives " + n, ARGUMENT, x -> x.setRules(0, 0, n)));
        }
        for (int n : Make.outside(0, 2)) {
            calls.add(new Wrong("lost, part " + n, ARGUMENT, x -> x.lost(0, n)));
            calls.add(new Wrong("lost, part " + n + " of a coil that is not slit", ARGUMENT, x -> x.lost(1, n)));
        }
        return calls;
    }

    private static List<Wrong> state() {
        List<Wrong> calls = new ArrayList<>();
        calls.add(new Wrong("coil, with 20", STATE, x -> x.coil(100, 1, 10, 1)));
        calls.add(new Wrong("defect of a coil that is slit", STATE, x -> x.defect(0, 0, 1)));
        calls.add(new Wrong("defect of a coil with 8", STATE, x -> x.defect(1, 0, 100)));
        calls.add(new Wrong("order, with 12", STATE, x -> x.order(20, 1)));
        calls.add(new Wrong("addSlit, with 15", STATE, x -> x.addSlit(20)));
        calls.add(new Wrong("keep, with 10 patterns", STATE, SlittingOffice::keep));
        calls.add(new Wrong("fullestByTrying, with 9 knives", STATE, x -> x.fullestByTrying(8)));
        calls.add(new Wrong("run of a coil that is slit", STATE, x -> x.run(0, 0)));
        calls.add(new Wrong("run by a pattern that is too wide", STATE, x -> x.run(8, 1)));
        calls.add(new Wrong("run by a pattern with a knife too many", STATE, x -> x.run(8, 2)));
        calls.add(new Wrong("plan of a coil that is slit", STATE, x -> x.plan(0, 0)));
        calls.add(new Wrong("plan of a coil that waits", STATE, x -> x.plan(1, 0)));
        calls.add(new Wrong("plan by a pattern that is too wide", STATE, x -> x.plan(8, 1)));
        calls.add(new Wrong("plan by a pattern with a knife too many", STATE, x -> x.plan(8, 2)));
        calls.add(new Wrong("plan, with 7 runs", STATE, x -> x.plan(8, 0)));
        calls.add(new Wrong("plan of coil 3 by a pattern that is too wide", STATE, x -> x.plan(3, 1)));
        calls.add(new Wrong("run of coil 3 by a pattern that is too wide", STATE, x -> x.run(3, 1)));
        return calls;
    }

    /** Calls to which two or three lines apply. */
    private static List<Wrong> firstLineDecides() {
        List<Wrong> calls = new ArrayList<>();
        // coil: IllegalArgumentException, then IllegalStateException
        for (int n : Make.outside(100, 2000)) {
            calls.add(new Wrong("a 21st coil of width " + n, ARGUMENT, x -> x.coil(n, 1, 10, 1)));
        }
        for (int n : Make.outside(1, 30000)) {
            calls.add(new Wrong("a 21st coil of weight " + n, ARGUMENT, x -> x.coil(100, n, 10, 1)));
        }
        for (int n : Make.outside(10, 5000)) {
            calls.add(new Wrong("a 21st coil of length " + n, ARGUMENT, x -> x.coil(100, 1, n, 1)));
        }
        for (int n : Make.outside(1, 99)) {
            calls.add(new Wrong("a 21st coil of heat " + n, ARGUMENT, x -> x.coil(100, 1, 10, n)));
        }
        defectLines(calls);
        // order, addSlit: IllegalArgumentException, then IllegalStateException
        for (int n : Make.outside(20, 1000)) {
            calls.add(new Wrong("a 13th order of width " + n, ARGUMENT, x -> x.order(n, 1)));
            calls.add(new Wrong("a 16th slit of width " + n, ARGUMENT, x -> x.addSlit(n)));
        }
        for (int n : Make.outside(1, 50000)) {
            calls.add(new Wrong("a 13th order of weight " + n, ARGUMENT, x -> x.order(20, n)));
        }
        runLines(calls);
        // lost: IndexOutOfBoundsException, then IllegalArgumentException
        for (int n : Make.outside(0, 19)) {
            calls.add(new Wrong("lost of coil " + n + ", part 3", INDEX, x -> x.lost(n, 3)));
            calls.add(new Wrong("lost of coil " + n + ", part -1", INDEX, x -> x.lost(n, -1)));
        }
        return calls;
    }

    /** IndexOutOfBoundsException, then IllegalArgumentException, then IllegalStateException. */
    private static void defectLines(List<Wrong> calls) {
        for (int n : Make.outside(0, 19)) {
            calls.add(new Wrong("defect of coil " + n + " from -1", INDEX, x -> x.defect(n, -1, 1)));
            calls.add(new Wrong("defect of coil " + n + " from 5000", INDEX, x -> x.defect(n, 5000, 5001)));
            calls.add(new Wrong("defect of coil " + n + " from 5 to 5", INDEX, x -> x.defect(n, 5, 5)));
        }
        for (int coil = 0; coil <= 1; coil++) {
            int c = coil;
            String what = coil == 0 ? " of a coil that is slit" : " of a coil with 8 defects";
            calls.add(new Wrong("defect from -1" + what, ARGUMENT, x -> x.defect(c, -1, 1)));
            calls.add(new Wrong("defect from 100" + what, ARGUMENT, x -> x.defect(c, 100, 101)));
            calls.add(new Wrong("defect to its from" + what, ARGUMENT, x -> x.defect(c, 50, 50)));
            calls.add(new Wrong("defect to 101" + what, ARGUMENT, x -> x.defect(c, 50, 101)));
        }
    }

    /** IndexOutOfBoundsException, then IllegalStateException. */
    private static void runLines(List<Wrong> calls) {
        for (int n : Make.outside(0, 9)) {
            calls.add(new Wrong("run of a coil that is slit by pattern " + n, INDEX, x -> x.run(0, n)));
            calls.add(new Wrong("plan of a coil that is slit by pattern " + n, INDEX, x -> x.plan(0, n)));
            calls.add(new Wrong("plan of a coil that waits by pattern " + n, INDEX, x -> x.plan(1, n)));
            calls.add(new Wrong("plan by pattern " + n + ", with 7 runs", INDEX, x -> x.plan(8, n)));
        }
        for (int n : Make.outside(0, 19)) {
            calls.add(new Wrong("plan of coil " + n + ", with 7 runs", INDEX, x -> x.plan(n, 0)));
            calls.add(new Wrong("plan of coil " + n + " by a wide pattern", INDEX, x -> x.plan(n, 1)));
            calls.add(new Wrong("run of coil " + n + " by a wide pattern", INDEX, x -> x.run(n, 1)));
            calls.add(new Wrong("fullestByTrying of coil " + n + ", 9 knives", INDEX, x -> x.fullestByTrying(n)));
        }
    }
}
