/** Promise 16: wiggle. */
public final class Promise16WiggleTest {
    private static final int N = CurveSums.NONE;

    public static void main(String[] args) {
        CurveSums x = Check.withDistances(4, 3, 2, 0, 1, 0, 1, 2);
        // 11 29 100 900 400 900 400 100
        Check.is("an empty row", x.wiggle(), N);
        x.gap(0, 0);
        Check.is("of equal ones the earliest", x.wiggle(), 3);
        x.gap(0, 1);
        Check.is("129, 1000, 1300, 1300, 1300", x.wiggle(), 3);
        x.gap(0, 2);
        Check.is("year 3: 900 + 400 + 900", x.wiggle(), 3);
        x.clear();
        Check.is("cleared", x.wiggle(), N);
        x.gap(0, 5);
        Check.is("slid to the first", x.wiggle(), 0);
        x.clear();
        x.gap(0, 4);
        Check.is("900 in year 1", x.wiggle(), 1);
        x.clear();
        x.gap(0, 59);
        Check.is("all sums are 0", x.wiggle(), 0);

        CurveSums last = Check.withDistances(N, N, N, N, N, N, N, 4);
        last.gap(0, 0);
        Check.is("the last year", last.wiggle(), 7);
        last.date(1004, 1);
        last.gap(1, 0);
        Check.is("the last year", last.wiggle(), 7);
        Check.end();
    }
}
