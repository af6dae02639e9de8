/** Promise 6: date, and the weights of measured dates. */
public final class Promise06DateTest {
    public static void main(String[] args) {
        answersItsNumber();
        weighsByTheRows();
        weighsAlikeOnBothSides();
        roundsDown();
        hasWeightsOfZeroOrOneByTheLeastUnit();
        holdsTheGreatestNumbers();
        hasNoWeightWithoutARow();
        hasTheLeastAndTheGreatestAge();
        hasTheLeastAndTheGreatestSpread();
        refusesOtherAges();
        refusesOtherSpreads();
        hasTwelve();
        refusesAThirteenth();
        Check.end();
    }

    private static void answersItsNumber() {
        Check.says("A measured date: its number.");
        CurveSums x = Sample.fresh();
        Check.is("date", x.date(300, 10), 0);
        Check.is("the same again", x.date(300, 10), 1);
        Check.is("dates", x.count(3), 2);
        x.sum(0, 1);
        Check.is("behind a sum", x.date(300, 10), 3);
    }

    private static void weighsByTheRows() {
        Check.says("the weight in a year with a row is UNIT * S * S / ((S + D) * (S + D)), rounded down");
        CurveSums x = Sample.fresh();
        x.curve(0, 300, 10);
        x.curve(1, 310, 20);
        x.curve(2, 3000, 100);
        x.curve(3, 0, 1);
        x.curve(4, 320, 30);
        x.date(300, 10);
        // S and D: 200, 0; 500, 100; 10100, 7290000; 101, 90000; 1000, 400
        Check.weights(x, 0, 1000, 694, 0, 0, 510, 0, 0, 0);
        x.date(320, 10);
        // 200, 400; 500, 100; 10100, 7182400; 101, 102400; 1000, 0
        Check.weights(x, 1, 111, 694, 0, 0, 1000, 0, 0, 0);
    }

    private static void weighsAlikeOnBothSides() {
        Check.says("D the square of (age - R - the row's age)");
        CurveSums x = Sample.withDistances(0, 1, 2, 3, 4, -2, -3, -4);
        Check.weights(x, 0, 900, 400, 100, 29, 11, 100, 29, 11);
    }

    private static void roundsDown() {
        Check.says("UNIT * S * S / ((S + D) * (S + D)), rounded down");
        // 4 of 9 of the unit: 400, 400 and 4 / 9, 400 and 8 / 9, 401 and 3 / 9
        int[][] units = {{899, 399}, {900, 400}, {901, 400}, {902, 400}, {903, 401}};
        for (int[] pair : units) {
            CurveSums x = new CurveSums(8, pair[0]);
            x.curve(0, 6, 1);
            x.date(5, 1);
            Check.is("2, 1 by the unit " + pair[0], x.weight(0, 0), pair[1]);
        }
    }

    private static void hasWeightsOfZeroOrOneByTheLeastUnit() {
        Check.says("the UNIT is 1 .. 65536");
        CurveSums x = new CurveSums(8, 1);
        x.curve(0, 1000, 100);
        x.curve(1, 1001, 100);
        x.curve(2, 999, 100);
        x.date(1000, 100);
        Check.weights(x, 0, 1, 0, 0, 0, 0, 0, 0, 0);
    }

    private static void holdsTheGreatestNumbers() {
        Check.says("UNIT * S * S / ((S + D) * (S + D)), rounded down");
        CurveSums x = new CurveSums(8, 65536);
        x.curve(0, 3000, 100);
        x.curve(1, 2900, 100);
        x.curve(2, 1900, 100);
        x.curve(3, 235, 100);
        x.curve(4, 234, 100);
        x.curve(5, 0, 100);
        x.curve(6, 0, 1);
        x.reservoir(0, 100);
        x.date(3000, 100);
        // S is 30000 but in year 6; D: 0, 10000, 1210000, 7645225, 7650756, 9000000; the unit's 9 / 16 in year 1
        Check.weights(x, 0, 65536, 36864, 38, 1, 0, 0, 0, 0);
        x.reservoir(-1000, 100);
        x.date(3000, 100);
        // D: 1000000, 1210000, 4410000, 14175225, ..
        Check.weights(x, 1, 55, 38, 2, 0, 0, 0, 0, 0);
        x.reservoir(1000, 100);
        x.date(0, 1);
        // S is 20001, and 10002 in year 6; D: 16000000, .., 1525225, 1522756, 1000000, 1000000
        Check.weights(x, 2, 0, 0, 0, 10, 11, 25, 6, 0);
    }

    private static void hasNoWeightWithoutARow() {
        Check.says("0 in a year without one");
        CurveSums x = Sample.withDistances(-1, -1, 0, -1, -1, -1, -1, -1);
        Check.weights(x, 0, 0, 0, 900, 0, 0, 0, 0, 0);
        x.date(0, 1);
        // A year without a row is not one with the age 0.
        Check.weights(x, 1, 0, 0, 0, 0, 0, 0, 0, 0);
    }

    private static void hasTheLeastAndTheGreatestAge() {
        Check.says("IllegalArgumentException: age is not 0 .. 3000");
        CurveSums x = Sample.fresh();
        x.curve(0, 0, 1);
        x.curve(7, 3000, 1);
        Check.is("date(0, 1)", x.date(0, 1), 0);
        Check.is("date(1, 1)", x.date(1, 1), 1);
        Check.is("date(2999, 1)", x.date(2999, 1), 2);
        Check.is("date(3000, 1)", x.date(3000, 1), 3);
        Check.weights(x, 0, 1000, 0, 0, 0, 0, 0, 0, 0);
        Check.weights(x, 1, 444, 0, 0, 0, 0, 0, 0, 0);
        Check.weights(x, 2, 0, 0, 0, 0, 0, 0, 0, 444);
        Check.weights(x, 3, 0, 0, 0, 0, 0, 0, 0, 1000);
    }

    private static void hasTheLeastAndTheGreatestSpread() {
        Check.says("IllegalArgumentException: .. spread not 1 .. 100.");
        CurveSums x = Sample.fresh();
        x.curve(0, 1001, 1);
        x.curve(1, 1100, 1);
        x.date(1000, 1);
        x.date(1000, 2);
        x.date(1000, 99);
        x.date(1000, 100);
        // S and D: 2, 1; 5, 1
        Check.is("spread 1", x.weight(0, 0), 444);
        Check.is("spread 2", x.weight(1, 0), 694);
        // 9802, 10000; 10001, 10000
        Check.is("spread 99", x.weight(2, 1), 245);
        Check.is("spread 100", x.weight(3, 1), 250);
    }

    private static void refusesOtherAges() {
        Check.says("IllegalArgumentException: age is not 0 .. 3000");
        for (int age : Check.beyond(0, 3000)) {
            Check.noArgument("date(" + age + ", 1)", Sample::busy, x -> x.date(age, 1));
            Check.noArgument("date(" + age + ", 100)", Sample::fresh, x -> x.date(age, 100));
        }
        // The reservoir does not bring an age within its bounds.
        Check.noArgument("date(3001, 1) with a reservoir of 15", Sample::busy, x -> x.date(3001, 1));
    }

    private static void refusesOtherSpreads() {
        Check.says("IllegalArgumentException: .. spread not 1 .. 100.");
        for (int spread : Check.beyond(1, 100)) {
            Check.noArgument("date(0, " + spread + ")", Sample::busy, x -> x.date(0, spread));
            Check.noArgument("date(3000, " + spread + ")", Sample::fresh, x -> x.date(3000, spread));
        }
        Check.noArgument("date(-1, 0)", Sample::busy, x -> x.date(-1, 0));
    }

    private static void hasTwelve() {
        Check.says("DATES, at most 12");
        CurveSums x = Sample.fresh();
        x.curve(3, 1000, 10);
        for (int date = 0; date < 12; date++) {
            Check.is("date", x.date(1000, 10), date);
            Check.is("dates", x.count(3), date + 1);
        }
        for (int date = 0; date < 12; date++) {
            Check.weights(x, date, 0, 0, 0, 1000, 0, 0, 0, 0);
        }
    }

    private static void refusesAThirteenth() {
        Check.says("IllegalStateException: there are twelve.");
        Check.noState("a thirteenth", Sample::withTwelveDates, x -> x.date(1000, 10));
        Check.noState("a thirteenth, the least", Sample::withTwelveDates, x -> x.date(0, 1));
        Check.noState("a thirteenth, the greatest", Sample::withTwelveDates, x -> x.date(3000, 100));
        Check.noState("a thirteenth of a full object", Sample::full, x -> x.date(1000, 10));
    }
}
