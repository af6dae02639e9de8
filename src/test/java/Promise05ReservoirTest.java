/** Promise 5: reservoir. */
public final class Promise05ReservoirTest {
    public static void main(String[] args) {
        isNoneAtFirst();
        countsFromNowOn();
        isReplacedByTheNext();
        isOfNoAccountForSumsAndMixtures();
        hasTheLeastAndTheGreatestAge();
        hasTheLeastAndTheGreatestSpread();
        refusesOtherAges();
        refusesOtherSpreads();
        Check.end();
    }

    /** Year 0 has the age 1000 and the spread 1. */
    private static CurveSums withOneRow() {
        CurveSums x = new CurveSums(8, 900);
        x.curve(0, 1000, 1);
        return x;
    }

    private static int weightOf(CurveSums x, int age, int spread) {
        return x.weight(x.date(age, spread), 0);
    }

    private static void isNoneAtFirst() {
        Check.says("(.. an age R and a spread T, 0 and 0 at first)");
        CurveSums x = withOneRow();
        Check.is("2, 0", weightOf(x, 1000, 1), 900);
        Check.is("2, 1", weightOf(x, 1001, 1), 400);
        CurveSums y = withOneRow();
        y.reservoir(0, 0);
        Check.is("2, 1, as with a reservoir of 0 and 0", weightOf(y, 1001, 1), 400);
    }

    private static void countsFromNowOn() {
        Check.says("The reservoir for dates that are measured from now on.");
        CurveSums x = withOneRow();
        x.date(1001, 1);
        x.reservoir(1, 0);
        Check.is("the date that was told stays", x.weight(0, 0), 400);
        Check.is("1001 - 1: 2, 0", weightOf(x, 1001, 1), 900);
        Check.is("1003 - 1: 2, 4", weightOf(x, 1003, 1), 100);
        x.reservoir(-1, 0);
        Check.is("999 + 1: 2, 0", weightOf(x, 999, 1), 900);
        x.reservoir(0, 2);
        Check.is("V is 1 and 4: 6, 3 * 3: 900 * 36 / 225", weightOf(x, 1003, 1), 144);
        Check.is("the dates that were told stay", x.weight(1, 0), 900);
        x.edition();
        Check.is("in a new edition too", weightOf(x, 1003, 1), 144);
        Check.is("for a joined date too", x.weight(x.joinRepeats(5, 5), 0), 144);
    }

    private static void isReplacedByTheNext() {
        Check.says("The reservoir for dates that are measured from now on.");
        CurveSums x = withOneRow();
        x.reservoir(7, 7);
        x.reservoir(1, 0);
        Check.is("the latest counts", weightOf(x, 1001, 1), 900);
        Check.is("with its spread", weightOf(x, 1002, 1), 400);
        x.reservoir(0, 0);
        Check.is("none again", weightOf(x, 1001, 1), 400);
    }

    private static void isOfNoAccountForSumsAndMixtures() {
        Check.says("The reservoir for dates that are measured");
        CurveSums x = withOneRow();
        x.date(1001, 1);
        x.reservoir(1, 5);
        Check.is("sum", x.weight(x.sum(0, 0), 0), 800);
        Check.is("mix", x.weight(x.mix(0, 0, 1, 2), 0), 400);
    }

    private static void hasTheLeastAndTheGreatestAge() {
        Check.says("IllegalArgumentException: age is not -1000 .. 1000");
        CurveSums x = withOneRow();
        x.reservoir(1000, 0);
        Check.is("2000 - 1000", weightOf(x, 2000, 1), 900);
        Check.is("2001 - 1000", weightOf(x, 2001, 1), 400);
        x.reservoir(-1000, 0);
        Check.is("0 + 1000", weightOf(x, 0, 1), 900);
        Check.is("1 + 1000", weightOf(x, 1, 1), 400);
        x.reservoir(999, 0);
        Check.is("1999 - 999", weightOf(x, 1999, 1), 900);
        x.reservoir(-999, 0);
        Check.is("1 + 999", weightOf(x, 1, 1), 900);
    }

    private static void hasTheLeastAndTheGreatestSpread() {
        Check.says("IllegalArgumentException: .. spread not 0 .. 100.");
        CurveSums x = withOneRow();
        x.reservoir(0, 100);
        Check.is("V is 1 and 10000: 10002, 10000: 900 * 100040004 / 400080004", weightOf(x, 1100, 1), 225);
        x.reservoir(0, 99);
        Check.is("V is 1 and 9801: 9803, 10000", weightOf(x, 1100, 1), 220);
        x.reservoir(0, 1);
        Check.is("V is 1 and 1: 3, 1: 900 * 9 / 16", weightOf(x, 1001, 1), 506);
        x.reservoir(0, 0);
        Check.is("V is 1", weightOf(x, 1001, 1), 400);
    }

    private static void refusesOtherAges() {
        Check.says("IllegalArgumentException: age is not -1000 .. 1000");
        for (int age : Check.beyond(-1000, 1000)) {
            Check.noArgument("reservoir(" + age + ", 0)", Sample::busy, x -> x.reservoir(age, 0));
            Check.noArgument("reservoir(" + age + ", 0) at first", Sample::fresh, x -> x.reservoir(age, 0));
        }
    }

    private static void refusesOtherSpreads() {
        Check.says("IllegalArgumentException: .. spread not 0 .. 100.");
        for (int spread : Check.beyond(0, 100)) {
            Check.noArgument("reservoir(0, " + spread + ")", Sample::busy, x -> x.reservoir(0, spread));
            Check.noArgument("reservoir(1000, " + spread + ")", Sample::busy, x -> x.reservoir(1000, spread));
        }
        Check.noArgument("reservoir(1001, 101)", Sample::busy, x -> x.reservoir(1001, 101));
    }
}
