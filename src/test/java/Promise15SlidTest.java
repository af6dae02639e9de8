/** Promise 15: slid. */
public final class Promise15SlidTest {
    private static final int N = CurveSums.NONE;

    public static void main(String[] args) {
        addsTheWeightsThatAreLaterByTheGaps();
        isZeroForAnEmptyRow();
        isZeroBehindTheLastYear();
        hasTheLastYear();
        doesNotTurnRoundToTheFirstYear();
        staysWhenTheCurveChanges();
        holdsTheGreatestWeights();
        refusesOtherYears();
        changesNothing();
        Check.end();
    }

    /** Dates 0 and 1 have 900 400 100 29 11 0 400 900 and 400 900 400 100 29 0 900 400. */
    private static CurveSums withTwo() {
        CurveSums x = Sample.withDistances(0, 1, 2, 3, 4, N, 1, 0);
        x.date(1001, 1);
        return x;
    }

    private static void addsTheWeightsThatAreLaterByTheGaps() {
        Check.says("each date's weight in the year that is later by its gap");
        CurveSums x = withTwo();
        x.gap(0, 0);
        Check.slids(x, 900, 400, 100, 29, 11, 0, 400, 900);
        x.gap(1, 2);
        Check.slids(x, 1300, 500, 129, 29, 911, 400, 400, 900);
        x.gap(1, 0);
        Check.slids(x, 1700, 1400, 529, 129, 940, 400, 1300, 1300);
    }

    private static void isZeroForAnEmptyRow() {
        Check.says("The row's sum at a year.");
        CurveSums x = withTwo();
        Check.slids(x, 0, 0, 0, 0, 0, 0, 0, 0);
        x.gap(0, 0);
        x.clear();
        Check.slids(x, 0, 0, 0, 0, 0, 0, 0, 0);
    }

    private static void isZeroBehindTheLastYear() {
        Check.says("(0 behind the last year)");
        CurveSums x = withTwo();
        x.gap(0, 8);
        x.gap(0, 9);
        x.gap(1, 59);
        Check.slids(x, 0, 0, 0, 0, 0, 0, 0, 0);
        x.gap(0, 6);
        Check.slids(x, 400, 900, 0, 0, 0, 0, 0, 0);
    }

    private static void hasTheLastYear() {
        Check.says("(0 behind the last year)");
        CurveSums x = withTwo();
        x.gap(0, 7);
        Check.slids(x, 900, 0, 0, 0, 0, 0, 0, 0);
        CurveSums y = withTwo();
        y.gap(1, 0);
        Check.is("slid(7) without a gap", y.slid(7), 400);
    }

    private static void doesNotTurnRoundToTheFirstYear() {
        Check.says("(0 behind the last year)");
        CurveSums x = withTwo();
        x.gap(0, 1);
        Check.slids(x, 400, 100, 29, 11, 0, 400, 900, 0);
    }

    private static void staysWhenTheCurveChanges() {
        Check.says("a WEIGHT for each year that stays as it was when they were told");
        CurveSums x = withTwo();
        x.gap(0, 0);
        x.curve(0, 1, 1);
        x.edition();
        x.reservoir(5, 5);
        Check.slids(x, 900, 400, 100, 29, 11, 0, 400, 900);
    }

    private static void holdsTheGreatestWeights() {
        Check.says("The row's sum at a year.");
        CurveSums x = Sample.withGreatWeights(60, 59);
        for (int i = 0; i < 8; i++) {
            x.gap(4, 59);
        }
        Check.is("eight weights of 1000000", x.slid(0), 8000000);
        Check.is("behind the last year", x.slid(1), 0);
        Check.is("far behind it", x.slid(59), 0);
    }

    private static void refusesOtherYears() {
        Check.says("IndexOutOfBoundsException: there is no such year");
        for (int year : Check.beyond(0, 7)) {
            Check.noIndex("slid(" + year + ")", Sample::busy, x -> x.slid(year));
            Check.noIndex("slid(" + year + ") of an empty row", Sample::fresh, x -> x.slid(year));
            Check.noIndex("slid(" + year + ") of a full row", Sample::withEightInRow, x -> x.slid(year));
        }
        Check.noIndex("slid(60) of sixty", () -> new CurveSums(60, 1), x -> x.slid(60));
    }

    private static void changesNothing() {
        Check.changesNothing("slid(3)", Sample::busy, x -> x.slid(3));
    }
}
