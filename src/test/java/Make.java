import java.util.Arrays;

/** Offices to begin a test with, and steps that many tests take. */
final class Make {
    static final int NONE = SlittingOffice.NONE;

    private Make() {
    }

    static SlittingOffice withRules(int edge, int loss, int knives) {
        SlittingOffice x = new SlittingOffice();
        x.setRules(edge, loss, knives);
        return x;
    }

    /** Coils of 500 mm, 520 kg, 100 m and heat 1, and the rules as they are at first. */
    static SlittingOffice withCoils(int count) {
        SlittingOffice x = new SlittingOffice();
        addCoils(x, count);
        return x;
    }

    static void addCoils(SlittingOffice x, int count) {
        for (int i = 0; i < count; i++) {
            x.coil(500, 520, 100, 1);
        }
    }

    static void addSlits(SlittingOffice x, int... widths) {
        for (int width : widths) {
            x.addSlit(width);
        }
    }

    static int keep(SlittingOffice x, int... widths) {
        addSlits(x, widths);
        return x.keep();
    }

    static int[] times(int count, int width) {
        int[] widths = new int[count];
        Arrays.fill(widths, width);
        return widths;
    }

    /** Numbers just outside of a range, far outside of it, and those that fewer bits would take for its least one. */
    static int[] outside(int least, int most) {
        return new int[] {least - 1, most + 1, Integer.MIN_VALUE, Integer.MAX_VALUE,
            least + (1 << 16), least + (1 << 31)};
    }

    static void dueDraft(SlittingOffice x, int... widths) {
        Checks.due("slits of the draft", x.draftSlits(), widths.length);
        for (int i = 0; i < widths.length && i < x.draftSlits(); i++) {
            Checks.due("draftWidth(" + i + ")", x.draftWidth(i), widths[i]);
        }
    }

    static void dueBestOrder(SlittingOffice x, int... runs) {
        Checks.due("runs that wait", x.waiting(), runs.length);
        for (int place = 0; place < runs.length && place < x.waiting(); place++) {
            Checks.due("nextAt(" + place + ")", x.nextAt(place), runs[place]);
        }
    }
}
