/** Promise 9: sum. */
public final class Promise09SumTest {
    private static final int N = CurveSums.NONE;

    public static void main(String[] args) {
        hasTheSumsOfBothWeights();
        addsADateToItself();
        isNotMeasured();
        isNotBoundByTheUnit();
        mayHaveWeightsOfAMillion();
        isNoneIfOneIsAboveAMillion();
        isNoneIfTheFirstOrTheLastYearAloneIsAbove();
        tellsNothingIfItIsNone();
        refusesOtherDates();
        hasTwelve();
        refusesAThirteenth();
        refusesAThirteenthThatIsTooGreat();
        Check.end();
    }

    private static void hasTheSumsOfBothWeights() {
        Check.says("A date, not measured, with the sums of both weights: its number");
        CurveSums x = Sample.withDistances(4, 3, 2, 1, 0, N, 0, 1);
        x.date(1001, 1);
        Check.is("sum", x.sum(0, 1), 2);
        Check.weights(x, 2, 40, 129, 500, 1300, 1300, 0, 1300, 1300);
        Check.is("the other way", x.sum(1, 0), 3);
        Check.weights(x, 3, 40, 129, 500, 1300, 1300, 0, 1300, 1300);
        Check.is("of a sum", x.sum(2, 0), 4);
        Check.weights(x, 4, 51, 158, 600, 1700, 2200, 0, 2200, 1700);
        Check.weights(x, 0, 11, 29, 100, 400, 900, 0, 900, 400);
    }

    private static void addsADateToItself() {
        Check.says("with the sums of both weights");
        CurveSums x = Sample.withDistances(4, 3, 2, 1, 0, N, 0, 1);
        Check.is("sum(0, 0)", x.sum(0, 0), 1);
        Check.weights(x, 1, 22, 58, 200, 800, 1800, 0, 1800, 800);
    }

    private static void isNotMeasured() {
        Check.says("A date, not measured");
        CurveSums x = Sample.withDistances(0, 1, N, N, N, N, N, N);
        x.date(1000, 1);
        x.sum(0, 1);
        Check.is("joinRepeats(0, 2)", x.joinRepeats(0, 2), N);
        Check.is("joinRepeats(2, 0)", x.joinRepeats(2, 0), N);
        Check.is("joinRepeats(2, 2)", x.joinRepeats(2, 2), N);
    }

    private static void isNotBoundByTheUnit() {
        Check.says("NONE if one would be above 1000000");
        CurveSums x = new CurveSums(8, 1);
        x.curve(0, 5, 1);
        x.date(5, 1);
        Check.is("sum", x.sum(0, 0), 1);
        Check.is("above the unit", x.weight(1, 0), 2);
    }

    private static void mayHaveWeightsOfAMillion() {
        Check.says("NONE if one would be above 1000000");
        CurveSums x = Sample.withGreatWeights(8, 2, 7);
        Check.is("500000 and 500000 may be", x.sum(3, 3), 5);
        Check.weights(x, 5, 0, 0, 1000000, 0, 0, 0, 0, 1000000);
        x.edition();
        x.curve(2, 3000, 1);
        x.curve(7, 3000, 1);
        x.date(5, 1);
        Check.is("1000000 and 0 may be", x.sum(4, 6), 7);
        Check.is("0 and 1000000 may be", x.sum(6, 4), 8);
        Check.weights(x, 8, 0, 0, 1000000, 0, 0, 0, 0, 1000000);
    }

    /** Date 5 has a weight of 1 in year 0, where date 4 has 1000000. */
    private static CurveSums withOneMore() {
        CurveSums x = Sample.withGreatWeights(8, 0);
        x.date(25, 1);
        return x;
    }

    private static void isNoneIfOneIsAboveAMillion() {
        Check.says("NONE if one would be above 1000000");
        CurveSums x = withOneMore();
        Check.is("2, 400: 62500 * 4 / 161604", x.weight(5, 0), 1);
        Check.is("1000001 may not be", x.sum(4, 5), N);
        Check.is("nor the other way", x.sum(5, 4), N);
        Check.is("1062500 may not be", x.sum(4, 0), N);
        Check.is("2000000 may not be", x.sum(4, 4), N);
        Check.is("dates", x.count(3), 6);
    }

    private static void isNoneIfTheFirstOrTheLastYearAloneIsAbove() {
        Check.says("NONE if one would be above 1000000");
        for (int year : new int[] {0, 3, 7}) {
            CurveSums x = Sample.withGreatWeights(8, year);
            Check.is("year " + year + " alone is too great", x.sum(4, 0), N);
            Check.is("year " + year + " alone is too great", x.sum(0, 4), N);
        }
        CurveSums y = Sample.withGreatWeights(8, 0, 7);
        y.curve(0, 3000, 1);
        y.date(5, 1);
        Check.is("the last year is too great, the first is not", y.sum(4, 5), N);
        y.curve(0, 5, 1);
        y.curve(7, 3000, 1);
        y.date(5, 1);
        Check.is("the first year is too great, the last is not", y.sum(4, 6), N);
    }

    private static void tellsNothingIfItIsNone() {
        Check.says("NONE if one would be above 1000000");
        Check.changesNothing("a sum that is too great", Promise09SumTest::withOneMore, x -> x.sum(4, 5));
        CurveSums x = withOneMore();
        x.sum(4, 5);
        Check.is("the next date's number", x.sum(0, 5), 6);
        Check.is("the next date's weight", x.weight(6, 0), 62501);
    }

    private static void refusesOtherDates() {
        Check.says("IndexOutOfBoundsException: there is no such .. date");
        for (int date : Check.beyond(0, 4)) {
            Check.noIndex("sum(" + date + ", 0)", Sample::busy, x -> x.sum(date, 0));
            Check.noIndex("sum(0, " + date + ")", Sample::busy, x -> x.sum(0, date));
            Check.noIndex("sum(" + date + ", " + date + ")", Sample::busy, x -> x.sum(date, date));
        }
    }

    private static void hasTwelve() {
        Check.says("DATES, at most 12");
        CurveSums x = Sample.withDistances(0, 1, 2, N, N, N, N, N);
        for (int date = 1; date < 12; date++) {
            Check.is("sum", x.sum(date - 1, 0), date);
        }
        Check.weights(x, 11, 12 * 900, 12 * 400, 12 * 100, 0, 0, 0, 0, 0);
    }

    private static void refusesAThirteenth() {
        Check.says("IllegalStateException: there are twelve.");
        Check.noState("a thirteenth", Sample::withTwelveDates, x -> x.sum(0, 1));
        Check.noState("a thirteenth of the last with itself", Sample::withTwelveDates, x -> x.sum(11, 11));
        Check.noState("a thirteenth of a full object", Sample::full, x -> x.sum(0, 1));
    }

    private static CurveSums withTwelveAndAGreatOne() {
        CurveSums x = withOneMore();
        for (int date = 6; date < 12; date++) {
            x.date(5, 1);
        }
        return x;
    }

    // The document names the exception without a condition on the sums.
    private static void refusesAThirteenthThatIsTooGreat() {
        Check.says("IllegalStateException: there are twelve.");
        Check.noState("a thirteenth that is too great", Promise09SumTest::withTwelveAndAGreatOne, x -> x.sum(4, 4));
    }
}
