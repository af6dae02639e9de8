/** Promise 14: gap. */
public final class Promise14GapTest {
    private static final int N = CurveSums.NONE;

    public static void main(String[] args) {
        CurveSums x = Check.withDistances(0, 1, 2, 3, 4, N, N, N);
        Check.noIndex("gap(1, 0): there is one date", () -> x.gap(1, 0));
        Check.is("gap", x.gap(0, 0), 1);
        Check.is("the same date again", x.gap(0, 59), 2);
        Check.is("dates of the row", x.count(4), 2);
        String before = Check.stateOf(x);
        for (int date : new int[] {-1, 1, 12, Integer.MIN_VALUE, Integer.MAX_VALUE}) {
            Check.noIndex("gap(" + date + ", 0)", () -> x.gap(date, 0));
            Check.noIndex("gap(" + date + ", 60): the date comes first", () -> x.gap(date, 60));
        }
        for (int gap : new int[] {-1, 60, Integer.MIN_VALUE, Integer.MAX_VALUE}) {
            Check.noArgument("gap(0, " + gap + ")", () -> x.gap(0, gap));
        }
        Check.same("wrong calls change nothing", Check.stateOf(x), before);
        for (int size = 3; size <= 8; size++) {
            Check.is("gap", x.gap(0, 1), size);
        }
        before = Check.stateOf(x);
        Check.noState("a ninth", () -> x.gap(0, 0));
        Check.noArgument("a ninth with a wrong gap", () -> x.gap(0, 60));
        Check.noIndex("a ninth that is no date", () -> x.gap(1, 0));
        Check.same("wrong calls change nothing", Check.stateOf(x), before);
        Check.is("clear", x.clear(), 8);
        Check.is("there is room again", x.gap(0, 2), 1);
        Check.is("with the new gap", x.slid(0), 100);
        Check.end();
    }
}
