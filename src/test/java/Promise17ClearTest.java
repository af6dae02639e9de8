/** Promise 17: clear. */
public final class Promise17ClearTest {
    private static final int N = CurveSums.NONE;

    public static void main(String[] args) {
        CurveSums x = Check.withDistances(0, 1, 2, 3, 4, N, 1, 0);
        Check.is("clear of an empty row", x.clear(), 0);
        x.gap(0, 3);
        x.gap(0, 1);
        Check.is("clear", x.clear(), 2);
        Check.is("dates of the row", x.count(4), 0);
        Check.is("slid", x.slid(0), 0);
        Check.is("clear again", x.clear(), 0);
        Check.is("the dates themselves stay", x.count(3), 1);
        Check.is("and their weights", x.total(0), 2740);
        Check.is("gap", x.gap(0, 0), 1);
        Check.is("nothing of the row before is left", x.slid(0), 900);
        Check.end();
    }
}
