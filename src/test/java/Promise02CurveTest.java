/** Promise 2: curve. */
public final class Promise02CurveTest {
    public static void main(String[] args) {
        answersWhetherThereWasARow();
        takesTheNewRow();
        tellsTheEditionInUseAlone();
        leavesDatesAsTheyAre();
        leavesTheRowOfDatesAndTheLeastSetAsTheyAre();
        hasTheFirstAndTheLastYear();
        refusesOtherYears();
        hasTheLeastAndTheGreatestAge();
        refusesOtherAges();
        hasTheLeastAndTheGreatestSpread();
        refusesOtherSpreads();
        Check.end();
    }

    private static void answersWhetherThereWasARow() {
        Check.says("whether there was one");
        CurveSums x = Sample.fresh();
        Check.is("curve of a new year", x.curve(3, 300, 10), false);
        Check.is("curve of another new year", x.curve(4, 300, 10), false);
        Check.is("curve over a row", x.curve(3, 350, 10), true);
        Check.is("once more", x.curve(3, 350, 10), true);
        Check.is("rows", x.count(6), 2);
        Check.is("curve with the least age and spread", x.curve(0, 0, 1), false);
        Check.is("curve over a row with the age 0", x.curve(0, 0, 1), true);
        Sample.read(x, "5:0+1");
        Check.is("curve over a row that was read", x.curve(5, 1, 1), true);
        Check.is("rows", x.count(6), 4);
    }

    private static void takesTheNewRow() {
        Check.says("A row of the edition in use");
        CurveSums x = Sample.withDistances(0, 0, 0, 0, 0, 0, 0, 0);
        x.curve(3, 1001, 1);
        x.curve(4, 1002, 1);
        x.curve(5, 1000, 2);
        x.curve(6, 1001, 2);
        x.date(1000, 1);
        // year 6: 5, 1: 900 * 25 / 36
        Check.weights(x, 1, 900, 900, 900, 400, 100, 900, 625, 900);
    }

    private static void tellsTheEditionInUseAlone() {
        Check.says("A row of the edition in use");
        CurveSums x = Sample.fresh();
        x.edition();
        Check.is("curve in edition 1", x.curve(2, 300, 10), false);
        x.use(0);
        Check.is("rows of edition 0", x.count(6), 0);
        Check.is("curve in edition 0", x.curve(2, 500, 10), false);
        Check.is("curve in edition 0 again", x.curve(2, 400, 10), true);
        x.use(1);
        x.date(300, 10);
        Check.is("the row of edition 1", x.weight(0, 2), 1000);
        x.use(0);
        x.date(400, 10);
        Check.is("the row of edition 0", x.weight(1, 2), 1000);
    }

    private static void leavesDatesAsTheyAre() {
        Check.says("dates that were told stay as they are");
        CurveSums x = Sample.withDistances(0, 1, 2, 3, 4, -1, -1, -1);
        x.sum(0, 0);
        x.mix(0, 0, 1, 2);
        x.joinRepeats(0, 0);
        for (int year = 0; year < 8; year++) {
            x.curve(year, 1000, 100);
        }
        Check.weights(x, 0, 900, 400, 100, 29, 11, 0, 0, 0);
        Check.weights(x, 1, 1800, 800, 200, 58, 22, 0, 0, 0);
        Check.weights(x, 2, 900, 400, 100, 29, 11, 0, 0, 0);
        Check.weights(x, 3, 900, 400, 100, 29, 11, 0, 0, 0);
        Check.is("total", x.total(0), 1440);
    }

    private static void leavesTheRowOfDatesAndTheLeastSetAsTheyAre() {
        Check.says("dates that were told stay as they are");
        CurveSums x = Sample.withDistances(0, 1, 2, 3, 4, -1, -1, -1);
        x.gap(0, 1);
        x.least(0, 9, 10);
        x.curve(0, 2000, 1);
        x.curve(7, 1000, 1);
        Check.slids(x, 400, 100, 29, 11, 0, 0, 0, 0);
        Check.same("the least set", Reveal.spans(x), " spans 0-1");
    }

    private static void hasTheFirstAndTheLastYear() {
        Check.says("YEARS are 0 .. YEARS - 1");
        for (int years : new int[] {8, 9, 59, 60}) {
            CurveSums x = new CurveSums(years, 1000);
            x.curve(0, 300, 10);
            x.curve(years - 1, 300, 10);
            x.date(300, 10);
            Check.is("the first year of " + years, x.weight(0, 0), 1000);
            Check.is("the last year of " + years, x.weight(0, years - 1), 1000);
            Check.is("total", x.total(0), 2000);
        }
    }

    private static void refusesOtherYears() {
        Check.says("IndexOutOfBoundsException: there is no such year");
        for (int year : Check.beyond(0, 7)) {
            Check.noIndex("curve(" + year + ", 1000, 10)", Sample::busy, x -> x.curve(year, 1000, 10));
        }
        for (int year : new int[] {-1, 10, 60}) {
            Check.noIndex("curve(" + year + ", 1, 1) of ten", () -> new CurveSums(10, 1), x -> x.curve(year, 1, 1));
        }
        Check.noIndex("curve(60, 1, 1) of sixty", () -> new CurveSums(60, 1), x -> x.curve(60, 1, 1));
    }

    private static void hasTheLeastAndTheGreatestAge() {
        Check.says("an age 0 .. 3000");
        CurveSums x = Sample.fresh();
        x.curve(0, 0, 1);
        x.curve(1, 1, 1);
        x.curve(2, 2999, 1);
        x.curve(3, 3000, 1);
        x.date(0, 1);
        x.date(3000, 1);
        Check.weights(x, 0, 1000, 444, 0, 0, 0, 0, 0, 0);
        Check.weights(x, 1, 0, 0, 444, 1000, 0, 0, 0, 0);
    }

    // In the busy object year 5 has a row, and year 1 has none.
    private static void refusesOtherAges() {
        Check.says("IllegalArgumentException: age or spread.");
        for (int age : Check.beyond(0, 3000)) {
            Check.noArgument("curve(5, " + age + ", 1)", Sample::busy, x -> x.curve(5, age, 1));
            Check.noArgument("curve(1, " + age + ", 100)", Sample::busy, x -> x.curve(1, age, 100));
        }
    }

    private static void hasTheLeastAndTheGreatestSpread() {
        Check.says("a spread 1 .. 100");
        CurveSums x = Sample.fresh();
        x.curve(0, 1001, 1);
        x.curve(1, 1001, 2);
        x.curve(2, 1100, 99);
        x.curve(3, 1100, 100);
        x.date(1000, 1);
        // S and D: 2, 1; 5, 1; 9802, 10000; 10001, 10000
        Check.weights(x, 0, 444, 694, 245, 250, 0, 0, 0, 0);
    }

    private static void refusesOtherSpreads() {
        Check.says("IllegalArgumentException: age or spread.");
        for (int spread : Check.beyond(1, 100)) {
            Check.noArgument("curve(5, 0, " + spread + ")", Sample::busy, x -> x.curve(5, 0, spread));
            Check.noArgument("curve(1, 3000, " + spread + ")", Sample::busy, x -> x.curve(1, 3000, spread));
        }
        Check.noArgument("curve(5, -1, 0)", Sample::busy, x -> x.curve(5, -1, 0));
    }
}
