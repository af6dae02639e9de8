/** Promise 16: wiggle. */
public final class Promise16WiggleTest {
    private static final int N = CurveSums.NONE;

    public static void main(String[] args) {
        answersTheYearWithTheGreatestSum();
        answersTheEarliestOfEqualOnes();
        hasTheFirstAndTheLastYear();
        answersTheFirstYearIfAllSumsAreZero();
        isNoneForAnEmptyRow();
        isNoneAgainAfterClear();
        holdsTheGreatestWeights();
        changesNothing();
        Check.end();
    }

    private static void answersTheYearWithTheGreatestSum() {
        Check.says("The year with the greatest sum");
        // 11 29 100 900 400 900 400 100
        CurveSums x = Sample.withDistances(4, 3, 2, 0, 1, 0, 1, 2);
        x.gap(0, 0);
        x.gap(0, 2);
        Check.is("year 3: 900 and 900", x.wiggle(), 3);
        x.gap(0, 4);
        x.gap(0, 4);
        x.gap(0, 4);
        Check.is("year 1: 29, 900 and three times 900", x.wiggle(), 1);
    }

    private static void answersTheEarliestOfEqualOnes() {
        Check.says("of equal ones the earliest");
        CurveSums x = Sample.withDistances(4, 3, 2, 0, 1, 0, 1, 2);
        x.gap(0, 0);
        Check.is("900 in the years 3 and 5", x.wiggle(), 3);
        x.gap(0, 1);
        Check.is("1300 in the years 3, 4 and 5", x.wiggle(), 3);
        CurveSums even = Sample.withDistances(1, 1, 1, 1, 1, 1, 1, 1);
        even.gap(0, 0);
        Check.is("400 in each year", even.wiggle(), 0);
        CurveSums ends = Sample.withDistances(N, 0, N, N, N, N, N, 0);
        ends.gap(0, 0);
        Check.is("900 in the years 1 and 7", ends.wiggle(), 1);
    }

    private static void hasTheFirstAndTheLastYear() {
        Check.says("The year with the greatest sum");
        CurveSums first = Sample.withDistances(0, 1, 1, 1, 1, 1, 1, 1);
        first.gap(0, 0);
        Check.is("the first year", first.wiggle(), 0);
        CurveSums last = Sample.withDistances(1, 1, 1, 1, 1, 1, 1, 0);
        last.gap(0, 0);
        Check.is("the last year", last.wiggle(), 7);
        CurveSums sixty = new CurveSums(60, 1);
        sixty.curve(59, 5, 1);
        sixty.date(5, 1);
        sixty.gap(0, 0);
        Check.is("the last year of sixty", sixty.wiggle(), 59);
        sixty.clear();
        sixty.gap(0, 59);
        Check.is("slid to the first", sixty.wiggle(), 0);
    }

    private static void answersTheFirstYearIfAllSumsAreZero() {
        Check.says("of equal ones the earliest");
        CurveSums x = Sample.withDistances(0, 0, 0, 0, 0, 0, 0, 0);
        x.gap(0, 59);
        Check.is("all behind the last year", x.wiggle(), 0);
        CurveSums y = Sample.fresh();
        y.date(1, 1);
        y.gap(0, 0);
        Check.is("a date whose weights are all 0", y.wiggle(), 0);
    }

    private static void isNoneForAnEmptyRow() {
        Check.says("NONE for an empty row");
        Check.is("a new object", Sample.fresh().wiggle(), N);
        Check.is("with dates, but none in the row", Sample.withDistances(0, 1, N, N, N, N, N, N).wiggle(), N);
    }

    private static void isNoneAgainAfterClear() {
        Check.says("NONE for an empty row");
        CurveSums x = Sample.withEightInRow();
        x.clear();
        Check.is("wiggle", x.wiggle(), N);
    }

    private static void holdsTheGreatestWeights() {
        Check.says("The year with the greatest sum");
        CurveSums x = Sample.withGreatWeights(60, 40, 41);
        for (int i = 0; i < 8; i++) {
            x.gap(4, i);
        }
        Check.is("two dates in each of the years 34 .. 40", x.wiggle(), 34);
        Check.is("their sum", x.slid(34), 2000000);
    }

    private static void changesNothing() {
        Check.changesNothing("wiggle()", Sample::busy, CurveSums::wiggle);
        Check.changesNothing("wiggle() of a new object", Sample::fresh, CurveSums::wiggle);
    }
}
