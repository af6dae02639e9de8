/** Promise 8: total. */
public final class Promise08TotalTest {
    private static final int N = CurveSums.NONE;

    public static void main(String[] args) {
        CurveSums x = Check.withDistances(4, 3, 2, 1, 0, N, 0, 1);
        Check.is("total", x.total(0), 11 + 29 + 100 + 400 + 900 + 900 + 400);
        x.date(0, 1);
        Check.is("total of weights that are all 0", x.total(1), 0);
        Check.is("total of a sum", x.total(x.sum(0, 0)), 2 * 2740);
        for (int date : new int[] {-1, 3, 12, Integer.MIN_VALUE, Integer.MAX_VALUE}) {
            Check.noIndex("total(" + date + ")", () -> x.total(date));
        }

        CurveSums full = new CurveSums(60, 65536);
        for (int year = 0; year < 60; year++) {
            full.curve(year, 5, 1);
        }
        full.date(5, 1);
        for (int date = 0; date < 3; date++) {
            full.sum(date, date);
        }
        full.sum(2, 3);
        full.sum(1, 4);
        Check.is("a great total", full.total(5), 60 * 14 * 65536);
        Check.end();
    }
}
