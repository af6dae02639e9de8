/** Promise 9: sum. */
public final class Promise09SumTest {
    private static final int N = CurveSums.NONE;

    public static void main(String[] args) {
        CurveSums x = Check.withDistances(4, 3, 2, 1, 0, N, 0, 1);
        x.date(1001, 1);
        Check.is("sum", x.sum(0, 1), 2);
        for (int year = 0; year < 8; year++) {
            Check.is("both weights", x.weight(2, year), x.weight(0, year) + x.weight(1, year));
        }
        Check.is("sum with itself", x.sum(0, 0), 3);
        Check.is("its weight", x.weight(3, 4), 1800);
        Check.is("a sum is not measured", x.joinRepeats(0, 2), N);
        Check.is("nor is it on the left", x.joinRepeats(2, 0), N);

        String before = Check.stateOf(x);
        for (int date : new int[] {-1, 4, 12, Integer.MIN_VALUE, Integer.MAX_VALUE}) {
            Check.noIndex("sum(" + date + ", 0)", () -> x.sum(date, 0));
            Check.noIndex("sum(0, " + date + ")", () -> x.sum(0, date));
        }
        Check.same("wrong calls change nothing", Check.stateOf(x), before);
        for (int date = 4; date < 12; date++) {
            Check.is("sum", x.sum(0, 1), date);
        }
        before = Check.stateOf(x);
        Check.noState("a thirteenth", () -> x.sum(0, 1));
        Check.noIndex("a thirteenth of no date", () -> x.sum(0, 12));
        Check.same("wrong calls change nothing", Check.stateOf(x), before);

        CurveSums y = new CurveSums(8, 62500);
        y.curve(2, 5, 1);
        y.curve(7, 5, 1);
        y.date(5, 1);
        for (int date = 0; date < 4; date++) {
            Check.is("sum", y.sum(date, date), date + 1);
        }
        Check.is("1000000 may be", y.weight(4, 7), 1000000);
        before = Check.stateOf(y);
        Check.is("1062500 may not", y.sum(4, 0), N);
        Check.is("on either side", y.sum(0, 4), N);
        Check.is("2000000 may not", y.sum(4, 4), N);
        Check.same("no date is told", Check.stateOf(y), before);
        y.edition();
        y.curve(2, 1000, 1);
        y.date(5, 1);
        Check.is("too great in one year alone", y.sum(4, 5), N);
        y.curve(7, 1000, 1);
        y.date(5, 1);
        Check.is("1000000 and 0 may be", y.sum(4, 6), 7);
        Check.is("its weight", y.weight(7, 2), 1000000);
        for (int date = 8; date < 12; date++) {
            y.date(5, 1);
        }
        Check.noState("twelve come before a sum that is too great", () -> y.sum(4, 4));

        CurveSums one = new CurveSums(8, 1);
        one.curve(0, 5, 1);
        one.date(5, 1);
        one.sum(0, 0);
        Check.is("the unit is no bound", one.weight(1, 0), 2);

        CurveSums edge = new CurveSums(8, 62500);
        edge.curve(0, 5, 1);
        edge.date(5, 1);
        for (int date = 0; date < 4; date++) {
            edge.sum(date, date);
        }
        edge.date(25, 1);
        Check.is("2, 400: 62500 * 4 / 161604", edge.weight(5, 0), 1);
        Check.is("1000001 may not", edge.sum(4, 5), N);
        Check.is("dates", edge.count(3), 6);
        Check.end();
    }
}
