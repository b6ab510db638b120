/** One test for each sentence of the document that names a boundary case. */
public final class BoundsTest {
    public static void main(String[] args) {
        BoundsOfTexts.test();
        BoundsOfLaws.test();
        BoundsOfState.test();
        BoundsOfDays.test();
        BoundsOfActs.test();
        BoundsOfAhead.test();
        BoundsOfPlans.test();
        BoundsOfTraces.test();
        BoundsOfImage.test();
        Bounds.ends();
    }
}
