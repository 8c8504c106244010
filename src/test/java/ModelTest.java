/** Compares long runs of calls, good and wrong ones, with what Model answers. */
public final class ModelTest {
    private static final int RUNS = 400;
    private static final int CALLS = 512;
    private static final int THREW = 1_000_000_000;

    private interface Call {
        int answer();
    }

    // written out, so that a failing run can be had again
    private long seed;
    private SlittingOffice office;
    private Model model;
    private int[] widths;
    private int heats;
    private boolean narrow;
    private final StringBuilder told = new StringBuilder();
    private int wrong = 0;

    public static void main(String[] args) {
        ModelTest test = new ModelTest();
        for (int run = 0; run < RUNS; run++) {
            test.start(run);
            for (int i = 0; i < CALLS && test.wrong == 0; i++) {
                test.oneCall();
            }
            if (test.wrong == 0) {
                test.lookAtAll();
            }
            if (test.wrong != 0) {
                System.out.println("run " + run + ":\n" + test.told);
                System.exit(1);
            }
        }
    }

    private void start(int run) {
        seed = 77_777L * run + 5;
        office = new SlittingOffice();
        model = new Model();
        // narrow slits, as patterns of many slits need them, are few: Model tries all choices
        narrow = run % 4 == 3;
        widths = new int[between(1, narrow ? 3 : 5)];
        for (int i = 0; i < widths.length; i++) {
            widths[i] = narrow ? between(20, 40)
                    : between(0, 3) == 0 ? between(20, 400) : 10 * between(6, 30);
        }
        heats = between(1, 3);
        told.setLength(0);
    }

    private int between(int least, int most) {
        seed = seed * 6364136223846793005L + 1442695040888963407L;
        return least + (int) ((seed >>> 33) % (most - least + 1));
    }

    /** Now and then a number at an edge, or far out. */
    private int number(int least, int most) {
        switch (between(0, 24)) {
            case 0: return least - 1;
            case 1: return most + 1;
            case 2: return least;
            case 3: return most;
            case 4: return between(0, 9) == 0 ? Integer.MIN_VALUE : least;
            case 5: return between(0, 9) == 0 ? Integer.MAX_VALUE : most;
            default: return between(least, most);
        }
    }

    private int width() {
        return between(0, 20) == 0 ? number(20, 1000) : widths[between(0, widths.length - 1)];
    }

    private static int answerOf(Call call) {
        try {
            return call.answer();
        } catch (RuntimeException e) {
            if (e.getClass() == IndexOutOfBoundsException.class) {
                return THREW;
            }
            if (e.getClass() == IllegalArgumentException.class) {
                return THREW + 1;
            }
            return e.getClass() == IllegalStateException.class ? THREW + 2 : THREW + 3;
        }
    }

    private void compare(String what, Call real, Call due) {
        int got = answerOf(real);
        int want = answerOf(due);
        told.append(what).append(" -> ").append(got).append('\n');
        if (got != want) {
            wrong++;
            told.append("    due is ").append(want).append('\n');
        }
    }

    private void oneCall() {
        int kind = between(0, 99);
        if (kind < 40) {
            change(kind);
        } else if (kind < 70) {
            runSomething(kind);
        } else {
            look(kind % 15);
        }
    }

    private void change(int kind) {
        if (kind < 6) {
            int a = between(0, 2) == 0 ? number(100, 2000) : between(300, 700);
            int b = between(0, 2) == 0 ? number(1, 30000) : between(1, 600);
            int c = number(10, 5000);
            int d = between(0, 5) == 0 ? number(1, 99) : between(1, heats);
            compare("coil " + a + " " + b + " " + c + " " + d,
                    () -> office.coil(a, b, c, d), () -> model.coil(a, b, c, d));
        } else if (kind < 12) {
            int coil = number(0, 5);
            int from = between(0, 2) == 0 ? number(0, 5000) : between(0, 300);
            int to = between(0, 2) == 0 ? number(1, 5000) : from + between(0, 200);
            compare("defect " + coil + " " + from + " " + to,
                    () -> office.defect(coil, from, to), () -> model.defect(coil, from, to));
        } else if (kind < 15) {
            int edge = between(0, 2) == 0 ? number(0, 100) : between(0, 10);
            int loss = between(0, 2) == 0 ? number(0, 500) : between(0, 30);
            int knives = between(0, 2) == 0 ? number(2, 16) : between(4, narrow ? 16 : 8);
            compare("setRules " + edge + " " + loss + " " + knives,
                    () -> office.setRules(edge, loss, knives), () -> model.setRules(edge, loss, knives));
        } else if (kind < 20) {
            int width = width();
            int weight = between(0, 2) == 0 ? number(1, 50000) : between(1, 500);
            compare("order " + width + " " + weight,
                    () -> office.order(width, weight), () -> model.order(width, weight));
        } else if (kind < 32) {
            int width = width();
            compare("addSlit " + width, () -> office.addSlit(width), () -> model.addSlit(width));
        } else if (kind < 34) {
            compare("clearDraft", () -> office.clearDraft(), () -> model.clearDraft());
        } else if (kind < 38 || !narrow) {
            compare("keep", () -> office.keep(), () -> model.keep());
        } else {
            int width = width();
            compare("addSlit " + width, () -> office.addSlit(width), () -> model.addSlit(width));
        }
    }

    private void runSomething(int kind) {
        int coil = number(0, 19);
        int pattern = number(0, 9);
        if (kind < 45) {
            compare("fill " + coil, () -> office.fill(coil), () -> model.fill(coil));
        } else if (kind < 47) {
            compare("fullestByTrying " + coil,
                    () -> office.fullestByTrying(coil), () -> model.fullestByTrying(coil));
        } else if (kind < 51) {
            compare("run " + coil + " " + pattern,
                    () -> office.run(coil, pattern), () -> model.run(coil, pattern));
        } else if (kind < 64) {
            compare("plan " + coil + " " + pattern,
                    () -> office.plan(coil, pattern), () -> model.plan(coil, pattern));
        } else if (kind < 65) {
            compare("runAll", () -> office.runAll(), () -> model.runAll());
        } else if (kind < 66) {
            compare("fewestByTrying", () -> office.fewestByTrying(), () -> model.fewestMoves());
            compare("fewestMoves", () -> office.fewestMoves(), () -> model.fewestMoves());
        } else if (kind < 67) {
            int place = number(0, 6);
            compare("nextAt " + place, () -> office.nextAt(place), () -> model.nextAt(place));
        } else {
            compare("waiting", () -> office.waiting(), () -> model.waiting());
            compare("moved", () -> office.moved(), () -> model.moved());
        }
    }

    private void look(int kind) {
        int coil = number(0, 19);
        int order = number(0, 11);
        int slit = number(0, 14);
        switch (kind) {
            case 0: lookAtOrder(order); break;
            case 1: lookAtCoil(coil); break;
            case 2: lookAtSlit(coil, slit); break;
            case 3: lookAtPattern(number(0, 9), coil); break;
            case 4: lookAtStock(width()); break;
            case 5: lookAtStock(number(0, 3000)); break;
            default: lookAtDraft(slit); break;
        }
    }

    private void lookAtOrder(int order) {
        compare("delivered " + order, () -> office.delivered(order), () -> model.delivered(order));
        compare("heatOf " + order, () -> office.heatOf(order), () -> model.heatOf(order));
    }

    private void lookAtCoil(int coil) {
        compare("slits " + coil, () -> office.slits(coil), () -> model.slits(coil));
        for (int i = -1; i <= 3; i++) {
            int part = i;
            compare("lost " + coil + " " + part, () -> office.lost(coil, part), () -> model.lost(coil, part));
        }
    }

    private void lookAtSlit(int coil, int slit) {
        compare("slitWeight " + coil + " " + slit,
                () -> office.slitWeight(coil, slit), () -> model.slitWeight(coil, slit));
        compare("slitOrder " + coil + " " + slit,
                () -> office.slitOrder(coil, slit), () -> model.slitOrder(coil, slit));
    }

    private void lookAtPattern(int pattern, int coil) {
        compare("moves " + pattern, () -> office.moves(pattern), () -> model.moves(pattern));
        compare("fits " + pattern + " " + coil,
                () -> office.fits(pattern, coil) ? 1 : 0, () -> model.fits(pattern, coil));
    }

    private void lookAtStock(int width) {
        compare("stock " + width, () -> office.stock(width), () -> model.stock(width));
    }

    private void lookAtDraft(int slit) {
        compare("draftSlits", () -> office.draftSlits(), () -> model.draftSlits());
        compare("draftWidth " + slit, () -> office.draftWidth(slit), () -> model.draftWidth(slit));
    }

    /** Whatever the run has changed can be seen in one of these answers. */
    private void lookAtAll() {
        for (int coil = 0; coil < 20; coil++) {
            lookAtCoil(coil);
            for (int slit = 0; slit < 15; slit++) {
                lookAtSlit(coil, slit);
            }
        }
        for (int order = 0; order < 12; order++) {
            lookAtOrder(order);
        }
        for (int pattern = 0; pattern < 10; pattern++) {
            lookAtPattern(pattern, between(0, 19));
        }
        for (int width : widths) {
            lookAtStock(width);
        }
        for (int slit = 0; slit < 15; slit++) {
            lookAtDraft(slit);
        }
        for (int i = 0; i < 7; i++) {
            int place = i;
            compare("nextAt " + place, () -> office.nextAt(place), () -> model.nextAt(place));
        }
        compare("moved", () -> office.moved(), () -> model.moved());
        compare("waiting", () -> office.waiting(), () -> model.waiting());
    }
}
