/** Promise 15: slid. */
public final class Promise15SlidTest {
    private static final int N = CurveSums.NONE;

    public static void main(String[] args) {
        CurveSums x = Check.withDistances(0, 1, 2, 3, 4, N, 1, 0);
        // 900 400 100 29 11 0 400 900
        for (int year = 0; year < 8; year++) {
            Check.is("slid of an empty row", x.slid(year), 0);
        }
        x.gap(0, 0);
        for (int year = 0; year < 8; year++) {
            Check.is("slid of a date without a gap", x.slid(year), x.weight(0, year));
        }
        x.date(1001, 1);
        // 400 900 400 100 29 0 900 400
        x.gap(1, 2);
        int[] two = {900 + 400, 400 + 100, 100 + 29, 29 + 0, 11 + 900, 0 + 400, 400, 900};
        for (int year = 0; year < 8; year++) {
            Check.is("slid(" + year + ") of two", x.slid(year), two[year]);
        }
        x.gap(0, 7);
        Check.is("the last year", x.slid(0), two[0] + 900);
        Check.is("behind the last year", x.slid(1), two[1]);
        x.gap(0, 8);
        x.gap(0, 59);
        Check.is("far behind it", x.slid(0), two[0] + 900);
        x.gap(0, 0);
        Check.is("one twice", x.slid(0), two[0] + 900 + 900);
        x.curve(0, 1, 1);
        Check.is("a curve changes no sum", x.slid(0), two[0] + 900 + 900);
        for (int year : new int[] {-1, 8, 60, Integer.MIN_VALUE, Integer.MAX_VALUE}) {
            Check.noIndex("slid(" + year + ")", () -> x.slid(year));
        }

        CurveSums great = new CurveSums(60, 62500);
        great.curve(59, 5, 1);
        great.date(5, 1);
        for (int date = 0; date < 4; date++) {
            great.sum(date, date);
        }
        for (int i = 0; i < 8; i++) {
            great.gap(4, 59);
        }
        Check.is("the greatest sum", great.slid(0), 8000000);
        Check.is("behind the last year", great.slid(1), 0);
        Check.end();
    }
}
