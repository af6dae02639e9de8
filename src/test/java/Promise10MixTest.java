/** Promise 10: mix. */
public final class Promise10MixTest {
    private static final int N = CurveSums.NONE;

    public static void main(String[] args) {
        hasAMixtureOfBothWeights();
        roundsDownOnce();
        isNotMeasured();
        takesNothingOfTheFirst();
        takesAllOfTheFirst();
        hasTheLeastAndTheGreatestBelow();
        holdsTheGreatestWeights();
        mixesADateWithItself();
        refusesOtherDates();
        refusesAnAboveBelowZero();
        refusesAnAboveBeyondBelow();
        refusesABelowBeyondAThousand();
        refusesABelowOfZero();
        refusesABelowUnderZero();
        hasTwelve();
        refusesAThirteenth();
        Check.end();
    }

    /** Dates 0 and 1 have 11 29 100 400 900 0 900 400 and 29 100 400 900 400 0 400 900. */
    private static CurveSums withTwo() {
        CurveSums x = Sample.withDistances(4, 3, 2, 1, 0, N, 0, 1);
        x.date(1001, 1);
        return x;
    }

    private static void hasAMixtureOfBothWeights() {
        Check.says("(above times a's and (below - above) times b's) by below, rounded down: its number");
        CurveSums x = withTwo();
        Check.is("mix", x.mix(0, 1, 1, 3), 2);
        Check.weights(x, 2, 23, 76, 300, 733, 566, 0, 566, 733);
        Check.is("the other way", x.mix(1, 0, 1, 3), 3);
        Check.weights(x, 3, 17, 52, 200, 566, 733, 0, 733, 566);
        Check.is("of a mixture", x.mix(2, 3, 1, 2), 4);
        Check.weights(x, 4, 20, 64, 250, 649, 649, 0, 649, 649);
        Check.weights(x, 0, 11, 29, 100, 400, 900, 0, 900, 400);
    }

    private static void roundsDownOnce() {
        Check.says("(above times a's and (below - above) times b's) by below, rounded down");
        CurveSums x = withTwo();
        x.mix(0, 0, 1, 2);
        // Rounded each for itself 11 / 2 and 11 / 2 would be 10.
        Check.weights(x, 2, 11, 29, 100, 400, 900, 0, 900, 400);
        x.mix(0, 1, 999, 1000);
        // 11018, 29071, 100300, 400500, 899500 by 1000
        Check.weights(x, 3, 11, 29, 100, 400, 899, 0, 899, 400);
        x.mix(1, 0, 999, 1000);
        // 28982, 99929, 399700, 899500, 400500 by 1000
        Check.weights(x, 4, 28, 99, 399, 899, 400, 0, 400, 899);
    }

    private static void isNotMeasured() {
        Check.says("A date, not measured");
        CurveSums x = withTwo();
        x.mix(0, 0, 1, 1);
        Check.is("joinRepeats(0, 2)", x.joinRepeats(0, 2), N);
        Check.is("joinRepeats(2, 0)", x.joinRepeats(2, 0), N);
        Check.is("joinRepeats(2, 2)", x.joinRepeats(2, 2), N);
    }

    private static void takesNothingOfTheFirst() {
        Check.says("0 <= above");
        CurveSums x = withTwo();
        for (int below : new int[] {1, 2, 999, 1000}) {
            int date = x.mix(0, 1, 0, below);
            Check.weights(x, date, 29, 100, 400, 900, 400, 0, 400, 900);
        }
    }

    private static void takesAllOfTheFirst() {
        Check.says("above <= below");
        CurveSums x = withTwo();
        for (int below : new int[] {1, 2, 999, 1000}) {
            int date = x.mix(0, 1, below, below);
            Check.weights(x, date, 11, 29, 100, 400, 900, 0, 900, 400);
        }
    }

    private static void hasTheLeastAndTheGreatestBelow() {
        Check.says("below <= 1000, or below is 0");
        CurveSums x = withTwo();
        Check.is("mix(0, 1, 1, 1)", x.mix(0, 1, 1, 1), 2);
        Check.is("mix(0, 1, 0, 1)", x.mix(0, 1, 0, 1), 3);
        Check.is("mix(0, 1, 1, 1000)", x.mix(0, 1, 1, 1000), 4);
        // 28982, 99929, 399700, 899500, 400500 by 1000
        Check.weights(x, 4, 28, 99, 399, 899, 400, 0, 400, 899);
    }

    private static void holdsTheGreatestWeights() {
        Check.says("(above times a's and (below - above) times b's) by below");
        CurveSums x = Sample.withGreatWeights(8, 0);
        Check.is("of 1000000 and 1000000", x.weight(x.mix(4, 4, 500, 1000), 0), 1000000);
        Check.is("all of 1000000", x.weight(x.mix(4, 0, 1000, 1000), 0), 1000000);
        Check.is("all of 1000000", x.weight(x.mix(0, 4, 0, 1000), 0), 1000000);
        Check.is("999000 and 62.5", x.weight(x.mix(4, 0, 999, 1000), 0), 999062);
        Check.is("62.5 and 999000", x.weight(x.mix(0, 4, 1, 1000), 0), 999062);
    }

    private static void mixesADateWithItself() {
        Check.says("a mixture of both weights");
        CurveSums x = withTwo();
        int date = x.mix(0, 0, 1, 3);
        Check.weights(x, date, 11, 29, 100, 400, 900, 0, 900, 400);
    }

    private static void refusesOtherDates() {
        Check.says("IndexOutOfBoundsException: there is no such .. date");
        for (int date : Check.beyond(0, 4)) {
            Check.noIndex("mix(" + date + ", 0, 1, 2)", Sample::busy, x -> x.mix(date, 0, 1, 2));
            Check.noIndex("mix(0, " + date + ", 1, 2)", Sample::busy, x -> x.mix(0, date, 1, 2));
            Check.noIndex("mix(0, " + date + ", 2, 2)", Sample::busy, x -> x.mix(0, date, 2, 2));
        }
    }

    private static void refusesShares(int[][] shares) {
        for (int[] share : shares) {
            String call = "mix(0, 1, " + share[0] + ", " + share[1] + ")";
            Check.noArgument(call, Sample::busy, x -> x.mix(0, 1, share[0], share[1]));
        }
    }

    private static void refusesAnAboveBelowZero() {
        Check.says("IllegalArgumentException: not 0 <= above");
        refusesShares(new int[][] {{-1, 1}, {-1, 2}, {-1, 1000}, {Integer.MIN_VALUE, 1}, {Integer.MIN_VALUE, 1000}});
    }

    private static void refusesAnAboveBeyondBelow() {
        Check.says("IllegalArgumentException: not .. above <= below");
        refusesShares(new int[][] {{2, 1}, {3, 2}, {1000, 999}, {1001, 1000}, {Integer.MAX_VALUE, 1000}});
    }

    private static void refusesABelowBeyondAThousand() {
        Check.says("IllegalArgumentException: not .. below <= 1000");
        refusesShares(new int[][] {{0, 1001}, {1, 1001}, {1000, 1001}, {1001, 1001}, {1, 65537}, {1, Integer.MAX_VALUE},
            {Integer.MAX_VALUE, Integer.MAX_VALUE}});
    }

    private static void refusesABelowOfZero() {
        Check.says("IllegalArgumentException: .. or below is 0.");
        refusesShares(new int[][] {{0, 0}, {1, 0}, {-1, 0}});
    }

    private static void refusesABelowUnderZero() {
        Check.says("IllegalArgumentException: not 0 <= above <= below");
        refusesShares(new int[][] {{0, -1}, {-1, -1}, {-2, -1}, {1, -1}, {Integer.MIN_VALUE, Integer.MIN_VALUE},
            {0, Integer.MIN_VALUE}, {Integer.MAX_VALUE, Integer.MIN_VALUE}});
    }

    private static void hasTwelve() {
        Check.says("DATES, at most 12");
        CurveSums x = withTwo();
        for (int date = 2; date < 12; date++) {
            Check.is("mix", x.mix(0, 1, 1, 3), date);
        }
        Check.weights(x, 11, 23, 76, 300, 733, 566, 0, 566, 733);
    }

    private static void refusesAThirteenth() {
        Check.says("IllegalStateException: there are twelve.");
        Check.noState("a thirteenth", Sample::withTwelveDates, x -> x.mix(0, 1, 1, 2));
        Check.noState("a thirteenth of nothing and all", Sample::withTwelveDates, x -> x.mix(11, 11, 0, 1));
        Check.noState("a thirteenth of a full object", Sample::full, x -> x.mix(0, 1, 1000, 1000));
    }
}
