/** Promise 8: total. */
public final class Promise08TotalTest {
    private static final int N = CurveSums.NONE;

    public static void main(String[] args) {
        answersAllWeights();
        isZeroIfAllWeightsAre();
        holdsTheGreatestWeights();
        hasTheFirstAndTheLastYear();
        staysAsItWasWhenTheDateWasTold();
        refusesOtherDates();
        changesNothing();
        Check.end();
    }

    private static void answersAllWeights() {
        Check.says("All its weights.");
        CurveSums x = Sample.withDistances(4, 3, 2, 1, 0, N, 0, 1);
        Check.is("total", x.total(0), 11 + 29 + 100 + 400 + 900 + 900 + 400);
        Check.is("total of a sum", x.total(x.sum(0, 0)), 2 * 2740);
        x.date(1001, 1);
        Check.is("total of another", x.total(2), 29 + 100 + 400 + 900 + 400 + 400 + 900);
        Check.is("total of the first again", x.total(0), 2740);
    }

    private static void isZeroIfAllWeightsAre() {
        Check.says("All its weights.");
        CurveSums x = Sample.fresh();
        x.date(1000, 10);
        Check.is("total without any row", x.total(0), 0);
        x.curve(0, 3000, 1);
        x.date(0, 1);
        Check.is("total of weights that are 0", x.total(1), 0);
    }

    private static void holdsTheGreatestWeights() {
        Check.says("All its weights.");
        CurveSums x = Sample.withGreatWeights(60, Sample.yearsUpTo(60));
        Check.is("sixty weights of 1000000", x.total(4), 60000000);
        Check.is("sixty weights of 62500", x.total(0), 60 * 62500);
    }

    private static void hasTheFirstAndTheLastYear() {
        Check.says("All its weights.");
        Check.is("the first year alone", Sample.withDistances(0, N, N, N, N, N, N, N).total(0), 900);
        Check.is("the last year alone", Sample.withDistances(N, N, N, N, N, N, N, 4).total(0), 11);
    }

    private static void staysAsItWasWhenTheDateWasTold() {
        Check.says("a WEIGHT for each year that stays as it was when they were told");
        CurveSums x = Sample.withDistances(0, N, N, N, N, N, N, N);
        x.curve(0, 1001, 1);
        x.curve(1, 1000, 1);
        x.reservoir(1, 1);
        x.edition();
        Check.is("total", x.total(0), 900);
    }

    private static void refusesOtherDates() {
        Check.says("IndexOutOfBoundsException: there is no such .. date");
        for (int date : Check.beyond(0, 4)) {
            Check.noIndex("total(" + date + ")", Sample::busy, x -> x.total(date));
        }
        for (int date : Check.beyond(0, 11)) {
            Check.noIndex("total(" + date + ") of twelve", Sample::withTwelveDates, x -> x.total(date));
        }
    }

    private static void changesNothing() {
        Check.changesNothing("total(4)", Sample::busy, x -> x.total(4));
    }
}
