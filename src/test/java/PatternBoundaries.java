/** What promises 5 to 13 say of boundaries; a test for each sentence. */
final class PatternBoundaries {
    private static final Class<? extends RuntimeException> INDEX = Checks.INDEX;
    private static final Class<? extends RuntimeException> ARGUMENT = Checks.ARGUMENT;
    private static final Class<? extends RuntimeException> STATE = Checks.STATE;

    private PatternBoundaries() {
    }

    static void all() {
        order();
        addSlit();
        clearDraft();
        draftSlits();
        draftWidth();
        keep();
        fits();
        fill();
        fullestByTrying();
    }

    // ---- promise 5

    private static void order() {
        p5Width();
        p5Weight();
        p5ReturnsNumber();
        p5OutOfRange();
        p5ThereAre12();
    }

    private static void p5Width() {
        Document.quote("Promise 5", "width: 20 to 1000");
        SlittingOffice x = Make.withRules(0, 0, 3);
        Checks.due("20", x.order(20, 5000), 0);
        Checks.due("1000", x.order(1000, 5000), 1);
        for (int width : Make.outside(20, 1000)) {
            Checks.dueThrow("width " + width, ARGUMENT, () -> x.order(width, 5000));
        }
        x.coil(1020, 1020, 100, 1);
        Make.keep(x, 1000, 20);
        Checks.due("both take a slit", x.run(0, 0), 2);
        Checks.due("the one for 20", x.delivered(0), 20);
        Checks.due("the one for 1000", x.delivered(1), 1000);
    }

    private static void p5Weight() {
        Document.quote("Promise 5", "weight: 1 to 50000");
        SlittingOffice x = Make.withRules(0, 0, 3);
        Checks.due("1", x.order(100, 1), 0);
        Checks.due("50000", x.order(200, 50000), 1);
        for (int weight : Make.outside(1, 50000)) {
            Checks.dueThrow("weight " + weight, ARGUMENT, () -> x.order(100, weight));
        }
        x.coil(200, 30000, 100, 1);
        x.coil(200, 19999, 100, 1);
        x.coil(200, 1, 100, 1);
        x.coil(200, 1, 100, 1);
        Make.keep(x, 200);
        for (int coil = 0; coil < 3; coil++) {
            Checks.due("up to 50000 of 50000", x.run(coil, 0), 1);
        }
        Checks.due("delivered", x.delivered(1), 50000);
        Checks.due("no more than 50000", x.run(3, 0), 0);
        x.coil(200, 2, 100, 1);
        x.coil(200, 2, 100, 1);
        Make.keep(x, 100);
        Checks.due("1 of 1", x.run(4, 1), 1);
        Checks.due("no more than 1", x.run(5, 1), 0);
    }

    private static void p5ReturnsNumber() {
        Document.quote("Promise 5", "Returns its number.");
        SlittingOffice x = new SlittingOffice();
        for (int i = 0; i < 12; i++) {
            Checks.dueThrow("an order of no weight", ARGUMENT, () -> x.order(100, 0));
            Checks.due("number of one more", x.order(100, 100), i);
        }
    }

    private static void p5OutOfRange() {
        Document.quote("Promise 5", "Throws IllegalArgumentException if width or weight is out of range");
        SlittingOffice x = new SlittingOffice();
        int[][] wrong = {{19, 1}, {20, 0}, {1001, 50000}, {1000, 50001}, {0, 0}, {-20, -1}};
        for (int[] w : wrong) {
            Checks.dueThrow("order " + w[0] + " " + w[1], ARGUMENT, () -> x.order(w[0], w[1]));
        }
        Checks.dueThrow("order 0, after these", INDEX, () -> x.delivered(0));
        for (int i = 0; i < 12; i++) {
            x.order(100, 100);
        }
        for (int[] w : wrong) {
            Checks.dueThrow("a 13th order " + w[0] + " " + w[1], ARGUMENT, () -> x.order(w[0], w[1]));
        }
    }

    private static void p5ThereAre12() {
        Document.quote("Promise 5", "Throws IllegalStateException if there are 12 orders");
        SlittingOffice x = Make.withCoils(1);
        for (int i = 0; i < 11; i++) {
            x.order(100, 1);
        }
        Checks.due("with 11", x.order(100, 1), 11);
        Checks.dueThrow("with 12", STATE, () -> x.order(20, 1));
        Make.keep(x, 100);
        x.run(0, 0);
        Checks.dueThrow("with 12, one of them not open", STATE, () -> x.order(1000, 50000));
        Checks.dueThrow("order 12", INDEX, () -> x.heatOf(12));
    }

    // ---- promise 6

    private static void addSlit() {
        p6RightSide();
        p6Width();
        p6Returns();
        p6OutOfRange();
        p6Has15Slits();
    }

    private static void p6RightSide() {
        Document.quote("Promise 6", "Adds a slit to the draft, at its right side.");
        SlittingOffice x = new SlittingOffice();
        x.addSlit(300);
        Make.dueDraft(x, 300);
        x.addSlit(20);
        Make.dueDraft(x, 300, 20);
        x.addSlit(1000);
        Make.dueDraft(x, 300, 20, 1000);
    }

    private static void p6Width() {
        Document.quote("Promise 6", "width: 20 to 1000");
        SlittingOffice x = new SlittingOffice();
        Checks.due("20", x.addSlit(20), 1);
        Checks.due("1000", x.addSlit(1000), 2);
        for (int width : Make.outside(20, 1000)) {
            Checks.dueThrow("width " + width, ARGUMENT, () -> x.addSlit(width));
        }
        Make.dueDraft(x, 20, 1000);
    }

    private static void p6Returns() {
        Document.quote("Promise 6", "Returns how many slits the draft has then.");
        SlittingOffice x = new SlittingOffice();
        for (int i = 1; i <= 15; i++) {
            Checks.due("with one more", x.addSlit(1000), i);
            Checks.due("draftSlits", x.draftSlits(), i);
        }
        x.clearDraft();
        Checks.due("with one again", x.addSlit(1000), 1);
    }

    private static void p6OutOfRange() {
        Document.quote("Promise 6", "Throws IllegalArgumentException if width is out of range");
        SlittingOffice x = new SlittingOffice();
        Checks.dueThrow("19 into an empty draft", ARGUMENT, () -> x.addSlit(19));
        Checks.dueThrow("1001 into an empty draft", ARGUMENT, () -> x.addSlit(1001));
        Make.dueDraft(x);
        Make.addSlits(x, Make.times(15, 40));
        Checks.dueThrow("19 into a full draft", ARGUMENT, () -> x.addSlit(19));
        Checks.dueThrow("1001 into a full draft", ARGUMENT, () -> x.addSlit(1001));
        Make.dueDraft(x, Make.times(15, 40));
    }

    private static void p6Has15Slits() {
        Document.quote("Promise 6", "Throws IllegalStateException if the draft has 15 slits");
        SlittingOffice x = new SlittingOffice();
        Make.addSlits(x, Make.times(14, 1000));
        Checks.due("with 14", x.addSlit(999), 15);
        Checks.dueThrow("with 15", STATE, () -> x.addSlit(20));
        Checks.dueThrow("with 15 once more", STATE, () -> x.addSlit(1000));
        Checks.due("the right one", x.draftWidth(14), 999);
        x.keep();
        Checks.due("after it is kept", x.addSlit(20), 1);
    }

    // ---- promises 7 to 9

    private static void clearDraft() {
        p7TakesAll();
        p7Returns();
    }

    private static void p7TakesAll() {
        Document.quote("Promise 7", "Takes all slits out of the draft.");
        SlittingOffice x = new SlittingOffice();
        Make.addSlits(x, Make.times(15, 1000));
        x.clearDraft();
        Make.dueDraft(x);
        Checks.dueThrow("its left one", INDEX, () -> x.draftWidth(0));
        Checks.dueThrow("keep", STATE, x::keep);
        Make.addSlits(x, Make.times(15, 20));
        Make.dueDraft(x, Make.times(15, 20));
    }

    private static void p7Returns() {
        Document.quote("Promise 7", "Returns how many there were.");
        SlittingOffice x = new SlittingOffice();
        for (int count = 0; count <= 15; count++) {
            Make.addSlits(x, Make.times(count, 20));
            Checks.due("with " + count, x.clearDraft(), count);
            Checks.due("with none", x.clearDraft(), 0);
        }
    }

    private static void draftSlits() {
        Document.quote("Promise 8", "Returns how many slits the draft has.");
        SlittingOffice x = Make.withCoils(1);
        Checks.due("at first", x.draftSlits(), 0);
        Make.addSlits(x, Make.times(15, 20));
        Checks.due("a full one", x.draftSlits(), 15);
        Checks.dueThrow("one too many", STATE, () -> x.addSlit(20));
        Checks.due("a full one still", x.draftSlits(), 15);
        x.keep();
        Checks.due("kept", x.draftSlits(), 0);
        x.order(240, 1);
        x.fill(0);
        Checks.due("filled", x.draftSlits(), 2);
    }

    private static void draftWidth() {
        p9Width();
        p9Slit();
        p9NoSuchSlit();
    }

    private static void p9Width() {
        Document.quote("Promise 9", "Returns the width.");
        SlittingOffice x = new SlittingOffice();
        Make.addSlits(x, 20, 1000);
        Checks.due("the least", x.draftWidth(0), 20);
        Checks.due("the greatest", x.draftWidth(1), 1000);
    }

    private static void p9Slit() {
        Document.quote("Promise 9", "slit: 0 for the left one");
        SlittingOffice x = new SlittingOffice();
        for (int i = 0; i < 15; i++) {
            x.addSlit(100 + i);
        }
        for (int i = 0; i < 15; i++) {
            Checks.due("slit " + i, x.draftWidth(i), 100 + i);
        }
    }

    private static void p9NoSuchSlit() {
        Document.quote("Promise 9", "Throws IndexOutOfBoundsException if the draft has no such slit");
        SlittingOffice x = new SlittingOffice();
        Checks.dueThrow("0 of none", INDEX, () -> x.draftWidth(0));
        for (int count = 1; count <= 15; count++) {
            x.addSlit(20);
            int most = count - 1;
            for (int slit : Make.outside(0, most)) {
                Checks.dueThrow(slit + " of " + count, INDEX, () -> x.draftWidth(slit));
            }
        }
        x.keep();
        Checks.dueThrow("0 of those that were kept", INDEX, () -> x.draftWidth(0));
    }

    // ---- promise 10

    private static void keep() {
        p10Empties();
        p10ReturnsNumber();
        p10NoSlitsOr10Patterns();
    }

    private static void p10Empties() {
        Document.quote("Promise 10", "Keeps the draft as a pattern, and empties it.");
        SlittingOffice x = Make.withRules(0, 0, 16);
        x.coil(300, 300, 100, 1);
        x.coil(300, 300, 100, 1);
        Make.keep(x, 50);
        Make.dueDraft(x);
        Make.keep(x, Make.times(15, 20));
        Make.dueDraft(x);
        Make.addSlits(x, 70, 70);
        x.run(0, 0);
        x.run(1, 1);
        Checks.due("a pattern of 1 slit", x.slits(0), 1);
        Checks.due("its slit", x.slitWeight(0, 0), 50);
        Checks.due("a pattern of 15 slits", x.slits(1), 15);
        Checks.due("its right one", x.slitWeight(1, 14), 20);
    }

    private static void p10ReturnsNumber() {
        Document.quote("Promise 10", "Returns the number of the pattern.");
        SlittingOffice x = new SlittingOffice();
        for (int i = 0; i < 10; i++) {
            Checks.dueThrow("an empty draft", STATE, x::keep);
            Checks.due("number of one more", Make.keep(x, 20), i);
        }
    }

    private static void p10NoSlitsOr10Patterns() {
        Document.quote("Promise 10", "Throws IllegalStateException if the draft has no slits, or there are 10 patterns");
        SlittingOffice x = new SlittingOffice();
        Checks.dueThrow("no slits", STATE, x::keep);
        x.addSlit(20);
        x.clearDraft();
        Checks.dueThrow("no slits any more", STATE, x::keep);
        for (int i = 0; i < 9; i++) {
            Make.keep(x, 20);
        }
        Checks.due("with 9 patterns", Make.keep(x, 20), 9);
        Checks.dueThrow("with 10 patterns and no slits", STATE, x::keep);
        Make.addSlits(x, 30, 40);
        Checks.dueThrow("with 10 patterns", STATE, x::keep);
        Make.dueDraft(x, 30, 40);
        Checks.dueThrow("pattern 10", INDEX, () -> x.moves(10));
    }

    // ---- promise 11

    private static void fits() {
        p11Pattern();
        p11Coil();
        p11Returns();
        p11NoSuchPatternOrCoil();
    }

    private static void p11Pattern() {
        Document.quote("Promise 11", "pattern: a pattern");
        SlittingOffice x = new SlittingOffice();
        x.coil(100, 100, 100, 1);
        for (int i = 0; i < 10; i++) {
            Make.keep(x, 76 + i);
        }
        for (int i = 0; i < 10; i++) {
            Checks.due("pattern " + i, x.fits(i, 0), i <= 4);
        }
    }

    private static void p11Coil() {
        Document.quote("Promise 11", "coil: a coil");
        SlittingOffice x = new SlittingOffice();
        for (int i = 0; i < 20; i++) {
            x.coil(110 + i, 100, 100, 1);
        }
        Make.keep(x, 100);
        for (int i = 0; i < 20; i++) {
            Checks.due("coil " + i, x.fits(0, i), i >= 10);
        }
    }

    private static void p11Returns() {
        Document.quote("Promise 11", "Returns whether it does.");
        SlittingOffice x = new SlittingOffice();
        x.coil(180, 100, 100, 1);
        Make.keep(x, Make.times(7, 20));
        Make.keep(x, Make.times(8, 20));
        Make.keep(x, 140, 21);
        Checks.due("its widths and its knives do", x.fits(0, 0), true);
        Checks.due("its widths do, its knives do not", x.fits(1, 0), false);
        Checks.due("its knives do, its widths do not", x.fits(2, 0), false);
        x.setRules(11, 0, 8);
        Checks.due("with a greater edge", x.fits(0, 0), true);
        x.setRules(20, 0, 8);
        Checks.due("with just the edge", x.fits(0, 0), true);
        x.setRules(21, 0, 8);
        Checks.due("with too much edge", x.fits(0, 0), false);
        x.setRules(20, 0, 7);
        Checks.due("with a knife less", x.fits(0, 0), false);
        x.setRules(10, 0, 9);
        Checks.due("with a knife more", x.fits(1, 0), true);
        x.run(0, 1);
        Checks.due("when the coil is slit", x.fits(0, 0), true);
    }

    private static void p11NoSuchPatternOrCoil() {
        Document.quote("Promise 11", "Throws IndexOutOfBoundsException if there is no such pattern or coil");
        SlittingOffice x = new SlittingOffice();
        Checks.dueThrow("neither", INDEX, () -> x.fits(0, 0) ? 1 : 0);
        Make.addCoils(x, 2);
        Checks.dueThrow("no pattern", INDEX, () -> x.fits(0, 0) ? 1 : 0);
        Make.keep(x, 20);
        for (int number : Make.outside(0, 1)) {
            Checks.dueThrow("coil " + number, INDEX, () -> x.fits(0, number) ? 1 : 0);
        }
        for (int number : Make.outside(0, 0)) {
            Checks.dueThrow("pattern " + number, INDEX, () -> x.fits(number, 1) ? 1 : 0);
            Checks.dueThrow("both " + number, INDEX, () -> x.fits(number, -1) ? 1 : 0);
        }
        Make.addCoils(x, 18);
        for (int i = 1; i < 10; i++) {
            Make.keep(x, 20);
        }
        Checks.due("pattern 9 and coil 19", x.fits(9, 19), true);
        Checks.dueThrow("pattern 10", INDEX, () -> x.fits(10, 19) ? 1 : 0);
        Checks.dueThrow("coil 20", INDEX, () -> x.fits(9, 20) ? 1 : 0);
    }

    // ---- promise 12

    private static void fill() {
        p12FullestOfOpenOrders();
        p12GreatestFirstSlit();
        p12Coil();
        p12ReturnsWidth();
        p12NoSlitFits();
        p12NoSuchCoil();
    }

    private static void p12FullestOfOpenOrders() {
        Document.quote("Promise 12", "Finds the fullest pattern for a coil, and makes it the draft: of slits with "
                + "widths of open orders that would take slits of this coil, as often as one likes, those that fit, "
                + "have the greatest width together, and of these the fewest slits;");
        makesItTheDraft();
        widthsOfOpenOrders();
        asOftenAsOneLikes();
        greatestWidthTogether();
        fewestSlits();
        widthsOf12Orders();
    }

    private static void makesItTheDraft() {
        SlittingOffice x = Make.withCoils(1);
        x.order(200, 1);
        x.fill(0);
        Make.dueDraft(x, 200, 200);
        Make.addSlits(x, Make.times(13, 20));
        Checks.due("into a draft of 15 slits", x.fill(0), 400);
        Make.dueDraft(x, 200, 200);
        Checks.due("it can be kept", x.keep(), 0);
        Checks.due("and it fits", x.fits(0, 0), true);
    }

    private static void widthsOfOpenOrders() {
        SlittingOffice x = Make.withRules(0, 0, 8);
        x.coil(300, 297, 100, 1);
        x.coil(300, 3, 100, 1);
        x.coil(300, 300, 100, 1);
        x.coil(300, 300, 100, 2);
        x.order(100, 100);
        x.order(90, 50000);
        Make.keep(x, 100);
        Checks.due("two open orders, both without heat", x.fill(2), 300);
        x.run(0, 0);
        // 99 of 100 kg, of heat 1
        Checks.due("open, of the coil's heat", x.fill(2), 300);
        Checks.due("open, of another heat", x.fill(3), 270);
        x.run(1, 0);
        Checks.due("100 of 100 kg", x.delivered(0), 100);
        Checks.due("not open", x.fill(2), 270);
        x.order(100, 1);
        Checks.due("another one of its width", x.fill(2), 300);
        Checks.due("another one without heat", x.fill(3), 300);
    }

    private static void asOftenAsOneLikes() {
        SlittingOffice x = Make.withRules(0, 0, 16);
        x.coil(300, 30000, 100, 1);
        x.order(20, 1);
        // each slit alone weighs more than the order
        Checks.due("15 times", x.fill(0), 300);
        Make.dueDraft(x, Make.times(15, 20));
        x.setRules(0, 0, 15);
        Checks.due("14 times, for 15 knives", x.fill(0), 280);
        x.setRules(0, 0, 2);
        Checks.due("once, for 2 knives", x.fill(0), 20);
        x.order(20, 1);
        x.order(20, 2);
        x.setRules(0, 0, 4);
        Checks.due("3 times, for 3 orders", x.fill(0), 60);
        Make.dueDraft(x, 20, 20, 20);
    }

    private static void greatestWidthTogether() {
        SlittingOffice x = Make.withRules(0, 0, 5);
        x.coil(1000, 1000, 100, 1);
        x.coil(999, 1000, 100, 1);
        x.order(990, 1);
        Checks.due("one slit", x.fill(0), 990);
        x.order(248, 1);
        Checks.due("four slits for 2 mm more", x.fill(0), 992);
        Make.dueDraft(x, 248, 248, 248, 248);
        x.order(504, 1);
        Checks.due("three slits for 8 mm more", x.fill(0), 1000);
        Make.dueDraft(x, 504, 248, 248);
        Checks.due("1 mm too wide", x.fill(1), 992);
        x.setRules(0, 0, 3);
        Checks.due("no three slits for 3 knives", x.fill(0), 990);
        Make.dueDraft(x, 990);
        x.setRules(5, 0, 2);
        Checks.due("just as wide as the coil, with the edges", x.fill(0), 990);
        x.setRules(6, 0, 2);
        Checks.due("1 mm too wide at each side", x.fill(0), 504);
    }

    private static void fewestSlits() {
        SlittingOffice x = Make.withRules(0, 0, 16);
        x.coil(600, 1000, 100, 1);
        x.order(40, 1);
        Checks.due("15 times 40", x.fill(0), 600);
        Make.dueDraft(x, Make.times(15, 40));
        x.order(150, 1);
        Checks.due("4 times 150", x.fill(0), 600);
        Make.dueDraft(x, 150, 150, 150, 150);
        x.order(200, 1);
        Checks.due("3 times 200", x.fill(0), 600);
        Make.dueDraft(x, 200, 200, 200);
        x.order(560, 1);
        Checks.due("560 and 40", x.fill(0), 600);
        Make.dueDraft(x, 560, 40);
        x.order(600, 1);
        Checks.due("once 600", x.fill(0), 600);
        Make.dueDraft(x, 600);
    }

    private static void widthsOf12Orders() {
        SlittingOffice x = Make.withRules(0, 0, 8);
        x.coil(100, 1000, 100, 1);
        x.coil(1000, 1000, 100, 1);
        x.coil(311, 1000, 100, 1);
        for (int i = 1; i <= 12; i++) {
            x.order(100 + i, 1);
        }
        Checks.due("all too wide", x.fill(0), 0);
        Checks.due("all too wide, by trying", x.fullestByTrying(0), 0);
        Checks.due("seven of the widest, for 8 knives", x.fill(1), 784);
        Make.dueDraft(x, Make.times(7, 112));
        Checks.due("the same by trying", x.fullestByTrying(1), 784);
        Checks.due("the first and the last are chosen", x.fill(2), 311);
        Make.dueDraft(x, 109, 101, 101);
        Checks.due("the same width by trying", x.fullestByTrying(2), 311);
    }

    private static void p12GreatestFirstSlit() {
        Document.quote("Promise 12", "of several such the one with the greatest first slit, "
                + "of these the one with the greatest second slit, and so on.");
        SlittingOffice x = Make.withRules(0, 0, 8);
        x.coil(200, 1000, 100, 1);
        x.coil(300, 1000, 100, 1);
        x.coil(320, 1000, 100, 1);
        x.order(100, 1);
        x.order(80, 1);
        x.order(120, 1);
        Checks.due("two slits", x.fill(0), 200);
        Make.dueDraft(x, 120, 80);
        Checks.due("three slits", x.fill(1), 300);
        Make.dueDraft(x, 120, 100, 80);
        x.order(60, 1);
        Checks.due("the second slit decides", x.fill(1), 300);
        Make.dueDraft(x, 120, 120, 60);
        SlittingOffice y = Make.withRules(0, 0, 5);
        y.coil(320, 1000, 100, 1);
        for (int width : new int[] {60, 50, 100, 70, 90}) {
            y.order(width, 1);
        }
        // four slits, as 100 100 60 60, 100 90 70 60, 90 90 70 70, ..
        Checks.due("the third slit decides", y.fill(0), 320);
        Make.dueDraft(y, 100, 100, 70, 50);
    }

    private static void p12Coil() {
        Document.quote("Promise 12", "coil: a coil");
        SlittingOffice x = new SlittingOffice();
        for (int i = 0; i < 20; i++) {
            x.coil(100 + 20 * i, 1000, 100, 1);
        }
        x.order(20, 1);
        x.setRules(0, 20, 16);
        for (int i = 0; i < 20; i++) {
            Checks.due("coil " + i, x.fill(i), 20 * Math.min(15, 5 + i));
        }
        x.keep();
        x.run(19, 0);
        Checks.due("one that waits", x.plan(18, 0), 0);
        x.order(40, 1);
        // the order for 20 is not open any more
        Checks.due("the same one", x.fill(18), 440);
        Checks.due("one that is slit", x.fill(19), 480);
    }

    private static void p12ReturnsWidth() {
        Document.quote("Promise 12", "Returns the width together;");
        SlittingOffice x = Make.withRules(0, 0, 3);
        x.coil(2000, 1000, 100, 1);
        x.coil(1999, 1000, 100, 1);
        x.coil(100, 1000, 100, 1);
        x.order(20, 1);
        Checks.due("the least", fillWith(x, 0, 2), 20);
        Checks.due("two of the least", fillWith(x, 2, 3), 40);
        x.order(1000, 1);
        Checks.due("the greatest", fillWith(x, 0, 3), 2000);
        Checks.due("1 mm less", fillWith(x, 1, 3), 1020);
        x.order(999, 1);
        Checks.due("the greatest but 1", fillWith(x, 1, 3), 1999);
        Make.dueDraft(x, 1000, 999);
    }

    private static int fillWith(SlittingOffice x, int coil, int knives) {
        x.setRules(0, 0, knives);
        return x.fill(coil);
    }

    private static void p12NoSlitFits() {
        Document.quote("Promise 12", "0 if there is no slit that fits, the draft being empty then.");
        SlittingOffice x = new SlittingOffice();
        x.coil(220, 1000, 100, 1);
        x.coil(219, 1000, 100, 1);
        x.coil(100, 1000, 100, 1);
        x.coil(220, 1000, 100, 2);
        dueNothing("no orders", x, 0);
        x.order(200, 50000);
        Checks.due("200 and the edges of 220", x.fill(0), 200);
        dueNothing("200 and the edges of 219", x, 1);
        x.run(0, Make.keep(x, 200));
        dueNothing("the order has another heat", x, 3);
        x.order(20, 1);
        x.setRules(40, 20, 8);
        Checks.due("20 and the edges of 100", x.fill(2), 20);
        x.setRules(41, 20, 8);
        dueNothing("20 and the edges of 98", x, 2);
        x.setRules(50, 20, 8);
        dueNothing("no room but the edges", x, 2);
        x.setRules(100, 20, 8);
        dueNothing("more edges than room", x, 2);
        x.setRules(0, 20, 8);
        x.run(3, Make.keep(x, 20));
        dueNothing("one order is not open, the other one too wide", x, 2);
    }

    private static void dueNothing(String what, SlittingOffice x, int coil) {
        x.clearDraft();
        Checks.due(what + ", the draft being empty", x.fill(coil), 0);
        Make.dueDraft(x);
        Make.addSlits(x, Make.times(15, 50));
        Checks.due(what + ", the draft being full", x.fill(coil), 0);
        Make.dueDraft(x);
    }

    private static void p12NoSuchCoil() {
        Document.quote("Promise 12", "Throws IndexOutOfBoundsException if there is no such coil");
        SlittingOffice x = new SlittingOffice();
        x.order(200, 50000);
        Make.addSlits(x, 30, 40);
        Checks.dueThrow("without coils", INDEX, () -> x.fill(0));
        Make.addCoils(x, 20);
        for (int coil : Make.outside(0, 19)) {
            Checks.dueThrow("coil " + coil, INDEX, () -> x.fill(coil));
        }
        Make.dueDraft(x, 30, 40);
    }

    // ---- promise 13

    private static void fullestByTrying() {
        p13AsFill();
        p13NothingChanges();
        p13Coil();
        p13Returns();
        p13NoSuchCoil();
        p13MoreThan8Knives();
    }

    private static void p13AsFill() {
        Document.quote("Promise 13", "Returns the width that fill() would return, found by trying all patterns with "
                + "slits that do not become greater from the left to the right.");
        SlittingOffice x = new SlittingOffice();
        x.coil(100, 10, 100, 1);
        x.coil(411, 500, 100, 1);
        x.coil(2000, 30000, 100, 2);
        int[] widths = {1000, 83, 199, 47, 20, 61, 61, 330, 97, 113, 53, 29};
        for (int width : widths) {
            for (int knives = 2; knives <= 8; knives++) {
                x.setRules(knives * 4, 0, knives);
                for (int coil = 0; coil < 3; coil++) {
                    int tried = x.fullestByTrying(coil);
                    Checks.due("fill(" + coil + ") with " + knives + " knives", x.fill(coil), tried);
                }
            }
            x.order(width, 1);
        }
    }

    private static void p13NothingChanges() {
        Document.quote("Promise 13", "Nothing changes.");
        SlittingOffice x = Make.withCoils(2);
        x.order(200, 1);
        Make.addSlits(x, 30, 40);
        Checks.due("with a draft", x.fullestByTrying(0), 400);
        Make.dueDraft(x, 30, 40);
        x.clearDraft();
        Checks.due("without a draft", x.fullestByTrying(0), 400);
        Make.dueDraft(x);
        Make.addSlits(x, Make.times(15, 20));
        Checks.due("with a full draft", x.fullestByTrying(0), 400);
        Make.dueDraft(x, Make.times(15, 20));
        Checks.due("none waits", x.waiting(), 0);
        Checks.due("none is slit", x.slits(0), Make.NONE);
        Checks.due("none is delivered", x.delivered(0), 0);
        Checks.due("no heat", x.heatOf(0), Make.NONE);
    }

    private static void p13Coil() {
        Document.quote("Promise 13", "coil: a coil");
        SlittingOffice x = new SlittingOffice();
        for (int i = 0; i < 20; i++) {
            x.coil(100 + 20 * i, 1000, 100, 1);
        }
        x.order(40, 1);
        for (int i = 0; i < 20; i++) {
            Checks.due("coil " + i, x.fullestByTrying(i), 40 * Math.min(7, 2 + i / 2));
        }
    }

    private static void p13Returns() {
        Document.quote("Promise 13", "Returns the width together.");
        SlittingOffice x = new SlittingOffice();
        x.coil(2000, 1000, 100, 1);
        x.coil(100, 1000, 100, 1);
        Checks.due("no orders", x.fullestByTrying(0), 0);
        x.order(1000, 1);
        x.setRules(0, 0, 8);
        Checks.due("no slit fits", x.fullestByTrying(1), 0);
        Checks.due("the greatest", x.fullestByTrying(0), 2000);
        x.setRules(1, 0, 8);
        Checks.due("1 mm too wide at each side", x.fullestByTrying(0), 1000);
        x.order(998, 1);
        Checks.due("just as wide", x.fullestByTrying(0), 1998);
        x.setRules(0, 0, 2);
        Checks.due("for 2 knives", x.fullestByTrying(0), 1000);
        x.setRules(100, 0, 8);
        Checks.due("more edges than room", x.fullestByTrying(1), 0);
        x.order(20, 1);
        Checks.due("more edges than room, and a narrow order", x.fullestByTrying(1), 0);
        x.setRules(40, 0, 8);
        Checks.due("the least", x.fullestByTrying(1), 20);
    }

    private static void p13NoSuchCoil() {
        Document.quote("Promise 13", "Throws IndexOutOfBoundsException if there is no such coil");
        SlittingOffice x = new SlittingOffice();
        Checks.dueThrow("without coils", INDEX, () -> x.fullestByTrying(0));
        Make.addCoils(x, 20);
        for (int coil : Make.outside(0, 19)) {
            Checks.dueThrow("coil " + coil, INDEX, () -> x.fullestByTrying(coil));
        }
        x.setRules(0, 0, 9);
        for (int coil : Make.outside(0, 19)) {
            Checks.dueThrow("coil " + coil + " with 9 knives", INDEX, () -> x.fullestByTrying(coil));
        }
    }

    private static void p13MoreThan8Knives() {
        Document.quote("Promise 13", "Throws IllegalStateException if there are more than 8 knives");
        SlittingOffice x = Make.withCoils(1);
        x.order(20, 1);
        for (int knives = 2; knives <= 8; knives++) {
            x.setRules(0, 0, knives);
            Checks.due(knives + " knives", x.fullestByTrying(0), 20 * (knives - 1));
        }
        for (int knives = 9; knives <= 16; knives++) {
            x.setRules(0, 0, knives);
            Checks.dueThrow(knives + " knives", STATE, () -> x.fullestByTrying(0));
            Checks.due("fill with " + knives + " knives", x.fill(0), 20 * (knives - 1));
        }
    }
}
