/** Promise 12: least. */
public final class Promise12LeastTest {
    private static final int N = CurveSums.NONE;

    public static void main(String[] args) {
        takesTheGreatestWeightsFirst();
        takesTheEarlierOfEqualOnesFirst();
        takesAsFewAsHaveTheShare();
        doesNotRoundTheShare();
        leavesYearsWithoutAWeight();
        answersHowManySpansItHas();
        joinsYearsThatFollowOneAnother();
        isEmptyIfAllWeightsAreZero();
        hasTheLeastAndTheGreatestShare();
        holdsTheGreatestWeights();
        changesTheLeastSetAlone();
        refusesOtherDates();
        refusesAnAboveBelowOne();
        refusesAnAboveBeyondBelow();
        refusesABelowBeyondAThousand();
        Check.end();
    }

    private static void isSet(CurveSums x, int date, int above, int below, String spans) {
        String call = "least(" + date + ", " + above + ", " + below + ")";
        Check.is(call, x.least(date, above, below), spans.isEmpty() ? 0 : spans.split(" ").length);
        Check.same("spans of " + call, Reveal.spans(x), (" spans " + spans).replaceFirst(" $", ""));
    }

    private static void takesTheGreatestWeightsFirst() {
        Check.says("its years with a weight above 0, the greatest weights first");
        // 400 29 0 900 11 100 0 0, 1440 in all
        CurveSums x = Sample.withDistances(1, 3, N, 0, 4, 2, N, N);
        isSet(x, 0, 1, 1000, "3-3");
        isSet(x, 0, 625, 1000, "3-3");
        isSet(x, 0, 626, 1000, "0-0 3-3");
        isSet(x, 0, 19, 20, "0-0 3-3 5-5");
        isSet(x, 0, 98, 100, "0-1 3-3 5-5");
        isSet(x, 0, 1, 1, "0-1 3-5");
    }

    private static void takesTheEarlierOfEqualOnesFirst() {
        Check.says("of equal ones the earlier years first");
        // 400 900 400 900 0 900 400 400
        CurveSums x = Sample.withDistances(1, 0, 1, 0, N, 0, 1, 1);
        isSet(x, 0, 1, 1000, "1-1");
        isSet(x, 0, 1, 4, "1-1 3-3");
        isSet(x, 0, 1, 2, "1-1 3-3 5-5");
        isSet(x, 0, 7, 10, "0-1 3-3 5-5");
        isSet(x, 0, 8, 10, "0-3 5-5");
        isSet(x, 0, 9, 10, "0-3 5-6");
        isSet(x, 0, 1, 1, "0-3 5-7");
    }

    private static void takesAsFewAsHaveTheShare() {
        Check.says("as few as have at least that share of all its weights");
        // 900 0 900 400 400 100 900 0, 3600 in all: 1 of 4 is 900, 1 of 2 is 1800, 3 of 4 is 2700
        CurveSums x = Sample.withDistances(0, N, 0, 1, 1, 2, 0, N);
        isSet(x, 0, 249, 1000, "0-0");
        isSet(x, 0, 1, 4, "0-0");
        isSet(x, 0, 251, 1000, "0-0 2-2");
        isSet(x, 0, 1, 2, "0-0 2-2");
        isSet(x, 0, 501, 1000, "0-0 2-2 6-6");
        isSet(x, 0, 3, 4, "0-0 2-2 6-6");
        isSet(x, 0, 751, 1000, "0-0 2-3 6-6");
        isSet(x, 0, 35, 36, "0-0 2-4 6-6");
        isSet(x, 0, 973, 1000, "0-0 2-6");
    }

    private static void doesNotRoundTheShare() {
        Check.says("at least that share of all its weights");
        CurveSums x = new CurveSums(8, 1);
        for (int year = 2; year < 5; year++) {
            x.curve(year, 5, 1);
        }
        x.date(5, 1);
        isSet(x, 0, 333, 1000, "2-2");
        isSet(x, 0, 1, 3, "2-2");
        isSet(x, 0, 334, 1000, "2-3");
        isSet(x, 0, 2, 5, "2-3");
        isSet(x, 0, 2, 3, "2-3");
        isSet(x, 0, 667, 1000, "2-4");
        isSet(x, 0, 999, 1000, "2-4");
    }

    private static void leavesYearsWithoutAWeight() {
        Check.says("its years with a weight above 0");
        isSet(Sample.withDistances(N, 0, N, N, 4, N, N, N), 0, 1, 1, "1-1 4-4");
        // In year 2 there is a row, but the weight is 0.
        isSet(Sample.withDistances(0, 1, 1000, 1, N, N, N, N), 0, 1, 1, "0-1 3-3");
    }

    private static void answersHowManySpansItHas() {
        Check.says("how many spans it has");
        isSet(Sample.withDistances(0, N, 0, N, 0, N, 0, N), 0, 1, 1, "0-0 2-2 4-4 6-6");
        isSet(Sample.withDistances(N, 0, N, 0, N, 0, N, 0), 0, 1, 1, "1-1 3-3 5-5 7-7");
        CurveSums x = new CurveSums(60, 1);
        for (int year = 0; year < 60; year += 2) {
            x.curve(year, 5, 1);
        }
        x.date(5, 1);
        Check.is("thirty spans", x.least(0, 1, 1), 30);
        Check.is("the last one", x.span(29, 0), 58);
        Check.is("the last one", x.span(29, 1), 58);
    }

    private static void joinsYearsThatFollowOneAnother() {
        Check.says("its SPANS are years of it that follow one another");
        isSet(Sample.withDistances(0, 1, 2, 3, 4, 3, 2, 1), 0, 1, 1, "0-7");
        isSet(Sample.withDistances(0, 1, N, N, N, N, 1, 0), 0, 1, 1, "0-1 6-7");
        isSet(Sample.withDistances(N, N, N, N, N, N, N, 0), 0, 1, 1, "7-7");
        isSet(Sample.withDistances(0, N, N, N, N, N, N, N), 0, 1, 1, "0-0");
    }

    private static void isEmptyIfAllWeightsAreZero() {
        Check.says("(0 if all weights are 0)");
        CurveSums x = Sample.withDistances(0, N, 0, N, N, N, N, N);
        x.date(0, 1);
        isSet(x, 1, 1, 1000, "");
        isSet(x, 0, 1, 1, "0-0 2-2");
        isSet(x, 1, 1, 1, "");
    }

    private static void hasTheLeastAndTheGreatestShare() {
        Check.says("1 <= above <= below <= 1000");
        CurveSums x = Sample.withDistances(4, 0, N, N, N, N, N, 1);
        isSet(x, 0, 1, 1, "0-1 7-7");
        isSet(x, 0, 1, 1000, "1-1");
        isSet(x, 0, 1000, 1000, "0-1 7-7");
        isSet(x, 0, 999, 1000, "0-1 7-7");
        isSet(x, 0, 99, 100, "1-1 7-7");
    }

    private static void holdsTheGreatestWeights() {
        Check.says("at least that share of all its weights");
        CurveSums x = Sample.withGreatWeights(60, Sample.yearsUpTo(60));
        isSet(x, 4, 1000, 1000, "0-59");
        isSet(x, 4, 500, 1000, "0-29");
        isSet(x, 4, 501, 1000, "0-30");
        isSet(x, 4, 16, 1000, "0-0");
        isSet(x, 4, 17, 1000, "0-1");
    }

    private static void changesTheLeastSetAlone() {
        Check.says("The least set of a date");
        // The busy object's latest least set is this very one.
        Check.changesNothing("least(2, 9, 10)", Sample::busy, x -> x.least(2, 9, 10));
        Check.changesNothing("least and back again", Sample::busy, x -> {
            x.least(0, 1, 1000);
            x.least(2, 9, 10);
        });
    }

    private static void refusesOtherDates() {
        Check.says("IndexOutOfBoundsException: there is no such .. date");
        for (int date : Check.beyond(0, 4)) {
            Check.noIndex("least(" + date + ", 1, 2)", Sample::busy, x -> x.least(date, 1, 2));
        }
        for (int date : Check.beyond(0, 11)) {
            Check.noIndex("least(" + date + ", 1, 2) of twelve", Sample::withTwelveDates, x -> x.least(date, 1, 2));
        }
    }

    private static void refusesShares(int[][] shares) {
        for (int[] share : shares) {
            String call = "least(0, " + share[0] + ", " + share[1] + ")";
            Check.noArgument(call, Sample::busy, x -> x.least(0, share[0], share[1]));
        }
    }

    private static void refusesAnAboveBelowOne() {
        Check.says("IllegalArgumentException: not 1 <= above");
        refusesShares(new int[][] {{0, 1}, {0, 1000}, {0, 0}, {-1, 2}, {-1, -1}, {-2, -1}, {0, -1},
            {Integer.MIN_VALUE, 1}, {Integer.MIN_VALUE, Integer.MIN_VALUE}});
    }

    private static void refusesAnAboveBeyondBelow() {
        Check.says("IllegalArgumentException: not .. above <= below");
        refusesShares(new int[][] {{2, 1}, {1, 0}, {1, -1}, {1000, 999}, {1001, 1000}, {Integer.MAX_VALUE, 1000},
            {1, Integer.MIN_VALUE}});
    }

    private static void refusesABelowBeyondAThousand() {
        Check.says("IllegalArgumentException: not .. below <= 1000");
        refusesShares(new int[][] {{1, 1001}, {1000, 1001}, {1001, 1001}, {1, 65537}, {1, Integer.MAX_VALUE},
            {Integer.MAX_VALUE, Integer.MAX_VALUE}});
    }
}
