/** Promise 7: weight. */
public final class Promise07WeightTest {
    private static final int N = CurveSums.NONE;

    public static void main(String[] args) {
        CurveSums x = Check.withDistances(4, 3, 2, 1, 0, N, 0, 1);
        int[] due = {11, 29, 100, 400, 900, 0, 900, 400};
        for (int year = 0; year < 8; year++) {
            Check.is("weight(0, " + year + ")", x.weight(0, year), due[year]);
        }
        x.curve(5, 1000, 1);
        x.edition();
        x.curve(4, 1, 1);
        x.reservoir(7, 7);
        Check.is("as it was when the date was told", x.weight(0, 5), 0);
        Check.is("as it was when the date was told", x.weight(0, 4), 900);
        String before = Check.stateOf(x);
        for (int date : new int[] {-1, 1, 12, Integer.MIN_VALUE, Integer.MAX_VALUE}) {
            Check.noIndex("weight(" + date + ", 0)", () -> x.weight(date, 0));
        }
        for (int year : new int[] {-1, 8, 60, Integer.MIN_VALUE, Integer.MAX_VALUE}) {
            Check.noIndex("weight(0, " + year + ")", () -> x.weight(0, year));
        }
        Check.same("wrong calls change nothing", Check.stateOf(x), before);
        Check.end();
    }
}
