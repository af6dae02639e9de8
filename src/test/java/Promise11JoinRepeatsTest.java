/** Promise 11: joinRepeats. */
public final class Promise11JoinRepeatsTest {
    private static final int N = CurveSums.NONE;

    public static void main(String[] args) {
        joinsTwoRepeats();
        isToldByTheEditionInUse();
        hasTheReservoirOfNow();
        joinsByTheirOwnAgesAndSpreads();
        isMeasuredItself();
        roundsTheAgeDown();
        roundsTheSpreadDownTwice();
        hasASpreadOfOneAtLeast();
        holdsTheGreatestNumbers();
        joinsADateWithItself();
        joinsDatesThatAreJustRepeats();
        isNoneForDatesThatAreJustNotRepeats();
        isNoneIfOneIsNotMeasured();
        tellsNothingIfItIsNone();
        refusesOtherDates();
        hasTwelve();
        refusesAThirteenth();
        refusesAThirteenthThatWouldBeNone();
        Check.end();
    }

    /** Dates 0 and 1: p 100, q 400, the age (128000 + 33000) / 500 = 322, the spread the root of 80: 8. */
    private static CurveSums withTwo() {
        CurveSums x = new CurveSums(8, 1000);
        x.curve(0, 322, 10);
        x.date(320, 10);
        x.date(330, 20);
        return x;
    }

    private static void joinsTwoRepeats() {
        Check.says("Two measured dates that are repeats, joined");
        CurveSums x = withTwo();
        x.curve(1, 332, 6);
        x.curve(2, 312, 6);
        Check.is("joinRepeats", x.joinRepeats(0, 1), 2);
        // 64 and 100, 0; 64 and 36, 100
        Check.weights(x, 2, 1000, 250, 250, 0, 0, 0, 0, 0);
        Check.is("the other way", x.joinRepeats(1, 0), 3);
        Check.weights(x, 3, 1000, 250, 250, 0, 0, 0, 0, 0);
    }

    private static void isToldByTheEditionInUse() {
        Check.says("told by the edition in use");
        CurveSums x = withTwo();
        x.edition();
        x.curve(0, 332, 6);
        x.joinRepeats(0, 1);
        Check.weights(x, 2, 250, 0, 0, 0, 0, 0, 0, 0);
        x.use(0);
        x.joinRepeats(0, 1);
        Check.weights(x, 3, 1000, 0, 0, 0, 0, 0, 0, 0);
    }

    private static void hasTheReservoirOfNow() {
        Check.says("with the reservoir that is told now");
        CurveSums x = withTwo();
        x.curve(1, 332, 6);
        x.reservoir(-10, 0);
        x.joinRepeats(0, 1);
        // 322 + 10: 64 and 100, 100: 1000 * 26896 / 69696
        Check.weights(x, 2, 385, 1000, 0, 0, 0, 0, 0, 0);
        x.reservoir(0, 10);
        x.joinRepeats(0, 1);
        // 64, 100 and 36, 100
        Check.weights(x, 3, 1000, 444, 0, 0, 0, 0, 0, 0);
        x.reservoir(0, 0);
        x.joinRepeats(0, 1);
        Check.weights(x, 4, 1000, 250, 0, 0, 0, 0, 0, 0);
    }

    private static void joinsByTheirOwnAgesAndSpreads() {
        Check.says("with p and q as the squares of their spreads");
        CurveSums x = new CurveSums(8, 1000);
        x.curve(0, 332, 6);
        x.reservoir(500, 50);
        x.date(320, 10);
        x.reservoir(-500, 90);
        x.date(330, 20);
        x.reservoir(0, 0);
        Check.is("joinRepeats", x.joinRepeats(0, 1), 2);
        Check.weights(x, 2, 250, 0, 0, 0, 0, 0, 0, 0);
    }

    private static void isMeasuredItself() {
        Check.says("joined, told by the edition in use");
        CurveSums x = withTwo();
        x.curve(0, 332, 6);
        x.joinRepeats(0, 1);
        // 322 and 8 twice: p 64, q 64, the age 322, the spread the root of 32: 5
        Check.is("joinRepeats(2, 2)", x.joinRepeats(2, 2), 3);
        Check.is("25 and 36, 100: 1000 * 3721 / 25921", x.weight(3, 0), 143);
    }

    private static int joinedWeight(CurveSums x, int a, int b, int rowAge, int rowSpread) {
        x.curve(0, rowAge, rowSpread);
        return x.weight(x.joinRepeats(a, b), 0);
    }

    private static void roundsTheAgeDown() {
        Check.says("the age is (age of a times q and age of b times p) by (p + q), rounded down");
        CurveSums x = new CurveSums(8, 65536);
        x.date(10, 2);
        x.date(11, 2);
        Check.is("10.5 is 10", joinedWeight(x, 0, 1, 10, 1), 65536);
        Check.is("10.5 the other way is 10", joinedWeight(x, 1, 0, 10, 1), 65536);
        x.date(14, 10);
        x.date(13, 100);
        Check.is("(140000 + 1300) / 10100, 13.99, is 13", joinedWeight(x, 4, 5, 13, 1), 65536);
        x.date(14, 100);
        Check.is("14 itself is 14", joinedWeight(x, 4, 7, 14, 1), 65536);
    }

    private static void roundsTheSpreadDownTwice() {
        Check.says("the spread the square root of p q by (p + q), rounded down twice");
        CurveSums x = new CurveSums(8, 65536);
        x.date(10, 3);
        Check.is("9 / 2 is 4, its root 2: 4 and 1, 9", joinedWeight(x, 0, 0, 7, 1), 8359);
        x.date(10, 4);
        Check.is("16 / 2 is 8, its root 2: 4 and 1, 9", joinedWeight(x, 2, 2, 7, 1), 8359);
        x.date(10, 5);
        Check.is("25 / 2 is 12, its root 3: 9 and 1, 9", joinedWeight(x, 4, 4, 7, 1), 18154);
        x.date(10, 100);
        x.date(10, 10);
        Check.is("1000000 / 10100 is 99, its root 9: 81 and 1, 100", joinedWeight(x, 6, 7, 20, 1), 13303);
        x.date(10, 2);
        Check.is("4 * 10000 / 10004 is 3, its root 1: 1 and 1, 1", joinedWeight(x, 6, 9, 11, 1), 29127);
    }

    private static void hasASpreadOfOneAtLeast() {
        Check.says("but 1 at least");
        CurveSums x = new CurveSums(8, 65536);
        x.date(7, 1);
        Check.is("the root of 1 / 2 is 0, but 1: 1 and 1, 1", joinedWeight(x, 0, 0, 8, 1), 29127);
        x.date(7, 100);
        Check.is("the root of 10000 / 10001 is 0, but 1: 1 and 1, 1", joinedWeight(x, 0, 2, 8, 1), 29127);
        Check.is("and it is measured", joinedWeight(x, 1, 3, 7, 1), 65536);
    }

    private static void holdsTheGreatestNumbers() {
        Check.says("(age of a times q and age of b times p) by (p + q)");
        CurveSums x = new CurveSums(8, 65536);
        x.date(3000, 100);
        x.date(2900, 100);
        Check.is("3000 and 70", joinedWeight(x, 0, 0, 3000, 100), 65536);
        Check.is("4900 and 10000, 10000", joinedWeight(x, 0, 0, 2900, 100), 23466);
        Check.is("2950 and 70", joinedWeight(x, 0, 1, 2950, 1), 65536);
        x.date(0, 100);
        Check.is("0 and 70", joinedWeight(x, 5, 5, 0, 1), 65536);
        Check.is("3000 apart", x.joinRepeats(0, 5), N);
        Check.is("3000 apart", x.joinRepeats(5, 0), N);
    }

    private static void joinsADateWithItself() {
        Check.says("Two measured dates that are repeats");
        CurveSums x = withTwo();
        Check.is("joinRepeats(0, 0)", x.joinRepeats(0, 0), 2);
        // 320, the root of 50: 49 and 100, 4: 1000 * 22201 / 23409
        Check.is("its weight", x.weight(2, 0), 948);
    }

    /** Dates with the spreads 3 and 4, of which 10 is just the double root of 9 + 16, and pairs beside it. */
    private static CurveSums withNeighbours() {
        CurveSums x = new CurveSums(8, 1000);
        x.date(500, 3);
        x.date(510, 4);
        x.date(490, 4);
        x.date(511, 4);
        x.date(489, 4);
        x.date(3000, 100);
        x.date(2718, 100);
        x.date(2717, 100);
        return x;
    }

    private static void joinsDatesThatAreJustRepeats() {
        Check.says("NONE, if the square of the difference of their ages is above 4 (p + q)");
        Check.is("10 apart", withNeighbours().joinRepeats(0, 1), 8);
        Check.is("10 apart, the other way", withNeighbours().joinRepeats(1, 0), 8);
        Check.is("-10 apart", withNeighbours().joinRepeats(0, 2), 8);
        Check.is("-10 apart, the other way", withNeighbours().joinRepeats(2, 0), 8);
        Check.is("79524 is not above 80000", withNeighbours().joinRepeats(5, 6), 8);
    }

    private static void isNoneForDatesThatAreJustNotRepeats() {
        Check.says("NONE, if the square of the difference of their ages is above 4 (p + q)");
        Check.is("11 apart", withNeighbours().joinRepeats(0, 3), N);
        Check.is("11 apart, the other way", withNeighbours().joinRepeats(3, 0), N);
        Check.is("-11 apart", withNeighbours().joinRepeats(0, 4), N);
        Check.is("-11 apart, the other way", withNeighbours().joinRepeats(4, 0), N);
        Check.is("80089 is above 80000", withNeighbours().joinRepeats(5, 7), N);
        CurveSums x = new CurveSums(8, 1);
        x.date(500, 1);
        x.date(502, 1);
        x.date(503, 1);
        Check.is("4 is not above 8", x.joinRepeats(0, 1), 3);
        Check.is("9 is above 8", x.joinRepeats(0, 2), N);
    }

    private static void isNoneIfOneIsNotMeasured() {
        Check.says("NONE, if .. one is not measured");
        CurveSums x = Sample.busy();
        for (int[] pair : new int[][] {{0, 2}, {2, 0}, {0, 3}, {3, 0}, {2, 3}, {3, 2}, {2, 2}, {3, 3}}) {
            Check.is("joinRepeats(" + pair[0] + ", " + pair[1] + ")", x.joinRepeats(pair[0], pair[1]), N);
        }
        Check.is("dates", x.count(3), 5);
        CurveSums near = Sample.withDistances(0, N, N, N, N, N, N, N);
        near.reservoir(0, 0);
        near.date(0, 1);
        near.sum(1, 1);
        // What is not measured is not one with the age 0 either.
        Check.is("of 0 and a sum", near.joinRepeats(1, 2), N);
        Check.is("of a sum and 0", near.joinRepeats(2, 1), N);
    }

    private static void tellsNothingIfItIsNone() {
        Check.says("NONE, if ..");
        Check.changesNothing("no repeats", Promise11JoinRepeatsTest::withNeighbours, x -> x.joinRepeats(0, 3));
        Check.changesNothing("one not measured", Sample::busy, x -> x.joinRepeats(0, 2));
        Check.changesNothing("one not measured", Sample::busy, x -> x.joinRepeats(3, 0));
        CurveSums x = withNeighbours();
        x.joinRepeats(0, 3);
        Check.is("the next date's number", x.joinRepeats(0, 1), 8);
    }

    private static void refusesOtherDates() {
        Check.says("IndexOutOfBoundsException: there is no such .. date");
        for (int date : Check.beyond(0, 4)) {
            Check.noIndex("joinRepeats(" + date + ", 0)", Sample::busy, x -> x.joinRepeats(date, 0));
            Check.noIndex("joinRepeats(0, " + date + ")", Sample::busy, x -> x.joinRepeats(0, date));
            // Date 2 is not measured.
            Check.noIndex("joinRepeats(2, " + date + ")", Sample::busy, x -> x.joinRepeats(2, date));
        }
    }

    private static void hasTwelve() {
        Check.says("DATES, at most 12");
        CurveSums x = withTwo();
        for (int date = 2; date < 12; date++) {
            Check.is("joinRepeats", x.joinRepeats(0, 1), date);
        }
        Check.is("its weight", x.weight(11, 0), 1000);
    }

    private static void refusesAThirteenth() {
        Check.says("IllegalStateException: there are twelve.");
        Check.noState("a thirteenth", Sample::withTwelveDates, x -> x.joinRepeats(0, 1));
        Check.noState("a thirteenth of the last with itself", Sample::withTwelveDates, x -> x.joinRepeats(11, 11));
        Check.noState("a thirteenth of a full object", Sample::full, x -> x.joinRepeats(0, 1));
    }

    private static CurveSums withTwelveNeighbours() {
        CurveSums x = withNeighbours();
        for (int date = 8; date < 12; date++) {
            x.date(500, 3);
        }
        return x;
    }

    // The document names the exception without a condition on the two dates.
    private static void refusesAThirteenthThatWouldBeNone() {
        Check.says("IllegalStateException: there are twelve.");
        Check.noState("one not measured", Sample::withTwelveDates, x -> x.joinRepeats(0, 2));
        Check.noState("no repeats", Promise11JoinRepeatsTest::withTwelveNeighbours, x -> x.joinRepeats(0, 3));
    }
}
