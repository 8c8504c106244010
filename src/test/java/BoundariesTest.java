import java.util.List;

/** Runs a test for each sentence of the document that names a boundary, and looks that none is left out. */
public final class BoundariesTest {
    private static final List<String> NAME_NO_BOUNDARY = List.of(
        "What it is: An office for slitting metal coils.",
        "What it is: what later calls answer is free.",
        "Terms: A coil of some width, weight, length and heat is slit by a pattern of widths into slits, "
            + "which go to customers' orders by weight, each of one heat only;",
        "Terms: edges are trimmed, inner turns are lost, and stretches with defects are cut out.",
        "Terms: Patterns are kept, the fullest one for a coil is searched for, and waiting runs are put in the order "
            + "with the fewest knives to be moved.",
        "Terms: A coil has a width in millimetres, a weight in kilograms, a length in metres, and a heat.",
        "Terms: Rules, patterns",
        "Terms: A pattern has slits, from the left side to the right one, each with a width;",
        "Terms: Ahead of the calls coil, defect, setRules the interface says: ---- coils and rules.",
        "Terms: Ahead of the calls order, addSlit, clearDraft, draftSlits, draftWidth, keep, fits, fill, "
            + "fullestByTrying the interface says: ---- orders and patterns.",
        "Terms: Ahead of the calls run, moves, moved the interface says: ---- running.",
        "Terms: Ahead of the calls slits, slitWeight, slitOrder, lost, delivered, heatOf, stock the interface says: "
            + "---- what became of coils and orders.",
        "Promise 2: Adds a coil.",
        "Promise 3: Adds a defect to a coil.",
        "Promise 4: Sets the rules.",
        "Promise 5: Adds an order.",
        "Promise 9: Returns the width of a slit of the draft.",
        "Promise 11: Tells whether a pattern fits a coil.",
        "Promise 14: Slits a coil by a pattern.",
        "Promise 17: Lets a run wait.",
        "Promise 23: Returns how many slits a coil has.",
        "Promise 24: Returns the weight of a slit.",
        "Promise 25: Returns the order to which a slit was delivered.",
        "Promise 26: Returns a part of the weight of a coil that is not in slits.",
        "Promise 27: Returns what has been delivered to an order.",
        "Promise 28: Returns the heat of an order.",
        "Not promised: How the state is held inside the object is free, as are the speed of each call, the text of "
            + "toString and the behaviour of equals and hashCode.",
        "Not promised: Use of one object from several threads at once is not promised to be safe.",
        "Not promised: Nothing is promised beyond the answers and state changes described above, and nothing about an "
            + "object after its 512th call.");

    public static void main(String[] args) {
        TermsBoundaries.all();
        CoilBoundaries.all();
        PatternBoundaries.all();
        RunBoundaries.all();
        WaitingBoundaries.all();
        OutcomeBoundaries.all();
        ThrowBoundaries.all();
        Document.dueAllQuotedBut(NAME_NO_BOUNDARY);
        Checks.finish();
    }
}
