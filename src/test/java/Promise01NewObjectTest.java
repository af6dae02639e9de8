/** Promise 1: a new object. */
public final class Promise01NewObjectTest {
    private static final int N = CurveSums.NONE;

    public static void main(String[] args) {
        noneIsMinusOne();
        yearsComeWithinTheirBounds();
        theLastYearIsTheCountMinusOne();
        unitComesWithinItsBounds();
        bothComeWithinTheirBoundsAtOnce();
        editionZeroIsThereWithoutRows();
        thereAreNoDates();
        theRowOfDatesIsEmpty();
        thePadIsEmpty();
        thereIsNoLeastSet();
        objectsHaveNothingInCommon();
        Check.end();
    }

    private static void noneIsMinusOne() {
        Check.says("public static final int NONE = -1;");
        Check.is("NONE", CurveSums.NONE, -1);
    }

    private static void yearsComeWithinTheirBounds() {
        Check.says("8 .. 60 of them .. (what is given below or above that counts as the least or the greatest)");
        int[][] years = {{Integer.MIN_VALUE, 8}, {-1, 8}, {0, 8}, {7, 8}, {8, 8}, {9, 9}, {59, 59}, {60, 60}, {61, 60},
            {65544, 60}, {Integer.MAX_VALUE, 60}};
        for (int[] pair : years) {
            Check.is("years of " + pair[0], new CurveSums(pair[0], 1).count(0), pair[1]);
        }
    }

    private static void theLastYearIsTheCountMinusOne() {
        Check.says("YEARS are 0 .. YEARS - 1");
        for (int[] pair : new int[][] {{7, 8}, {8, 8}, {9, 9}, {59, 59}, {60, 60}, {61, 60}}) {
            int years = pair[1];
            CurveSums x = new CurveSums(pair[0], 1);
            Check.is("curve of the first year", x.curve(0, 1, 1), false);
            Check.is("curve of the last year", x.curve(years - 1, 1, 1), false);
            Check.noIndex("curve(" + years + ")", () -> new CurveSums(pair[0], 1), y -> y.curve(years, 1, 1));
        }
    }

    private static void unitComesWithinItsBounds() {
        Check.says("the UNIT is 1 .. 65536 (what is given below or above that counts as the least or the greatest)");
        int[][] units = {{Integer.MIN_VALUE, 1}, {-1, 1}, {0, 1}, {1, 1}, {2, 2}, {65535, 65535}, {65536, 65536},
            {65537, 65536}, {131072, 65536}, {Integer.MAX_VALUE, 65536}};
        for (int[] pair : units) {
            CurveSums x = new CurveSums(8, pair[0]);
            x.curve(0, 5, 1);
            x.date(5, 1);
            Check.is("the weight without a distance by the unit " + pair[0], x.weight(0, 0), pair[1]);
        }
    }

    private static void bothComeWithinTheirBoundsAtOnce() {
        Check.says("(what is given below or above that counts as the least or the greatest)");
        CurveSums small = new CurveSums(Integer.MIN_VALUE, Integer.MIN_VALUE);
        small.curve(7, 5, 1);
        small.date(5, 1);
        Check.is("the weight in the last year", small.weight(0, 7), 1);
        CurveSums great = new CurveSums(Integer.MAX_VALUE, Integer.MAX_VALUE);
        great.curve(59, 5, 1);
        great.date(5, 1);
        Check.is("the weight in the last year", great.weight(0, 59), 65536);
    }

    private static void editionZeroIsThereWithoutRows() {
        Check.says("Edition 0 without rows");
        CurveSums x = Sample.fresh();
        Check.is("editions", x.count(1), 1);
        Check.is("the edition in use", x.count(2), 0);
        Check.is("rows", x.count(6), 0);
        Check.is("date", x.date(0, 100), 0);
        Check.weights(x, 0, 0, 0, 0, 0, 0, 0, 0, 0);
        for (int year = 0; year < 8; year++) {
            Check.is("curve(" + year + ", 1, 1)", x.curve(year, 1, 1), false);
        }
    }

    private static void thereAreNoDates() {
        Check.says("no dates");
        Check.is("dates", Sample.fresh().count(3), 0);
        Check.noIndex("weight(0, 0)", Sample::fresh, x -> x.weight(0, 0));
        Check.noIndex("total(0)", Sample::fresh, x -> x.total(0));
        Check.noIndex("sum(0, 0)", Sample::fresh, x -> x.sum(0, 0));
        Check.noIndex("mix(0, 0, 1, 2)", Sample::fresh, x -> x.mix(0, 0, 1, 2));
        Check.noIndex("joinRepeats(0, 0)", Sample::fresh, x -> x.joinRepeats(0, 0));
        Check.noIndex("least(0, 1, 2)", Sample::fresh, x -> x.least(0, 1, 2));
        Check.noIndex("gap(0, 0)", Sample::fresh, x -> x.gap(0, 0));
    }

    private static void theRowOfDatesIsEmpty() {
        Check.says("an empty row of dates");
        CurveSums x = Sample.fresh();
        Check.is("dates of the row", x.count(4), 0);
        Check.slids(x, 0, 0, 0, 0, 0, 0, 0, 0);
        Check.is("wiggle", x.wiggle(), N);
        Check.is("clear", x.clear(), 0);
    }

    private static void thePadIsEmpty() {
        Check.says("an empty pad");
        Check.is("signs", Sample.fresh().count(5), 0);
        Check.is("read", Sample.fresh().read(), -1);
        Check.is("a first sign", Sample.fresh().unit('0', 0), 1);
    }

    private static void thereIsNoLeastSet() {
        Check.says("IndexOutOfBoundsException: there is no such .. span");
        Check.noIndex("span(0, 0)", Sample::fresh, x -> x.span(0, 0));
        Check.noIndex("span(0, 1)", Sample::fresh, x -> x.span(0, 1));
    }

    private static void objectsHaveNothingInCommon() {
        String alone = Reveal.all(Sample.fresh());
        CurveSums before = Sample.fresh();
        Sample.full();
        Check.same("an object made before one that is full", Reveal.all(before), alone);
        Check.same("an object made behind one that is full", Reveal.all(Sample.fresh()), alone);
    }
}
