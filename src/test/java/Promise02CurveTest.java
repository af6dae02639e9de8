/** Promise 2: curve. */
public final class Promise02CurveTest {
    public static void main(String[] args) {
        CurveSums x = new CurveSums(8, 1000);
        Check.is("curve of a new year", x.curve(3, 300, 10), false);
        Check.is("date", x.date(300, 10), 0);
        String before = Check.stateOf(x);
        Check.is("curve over a row", x.curve(3, 350, 10), true);
        Check.same("dates that were told stay", Check.stateOf(x), before);
        Check.is("date by the new row", x.date(350, 10), 1);
        Check.is("its weight", x.weight(1, 3), 1000);
        Check.is("rows", x.count(6), 1);

        Check.is("least age and spread, first year", x.curve(0, 0, 1), false);
        Check.is("greatest age and spread, last year", x.curve(7, 3000, 100), false);
        Check.is("age 0 is a row", x.curve(0, 0, 1), true);
        Check.is("rows", x.count(6), 3);

        before = Check.stateOf(x);
        for (int year : new int[] {-1, 8, Integer.MIN_VALUE, Integer.MAX_VALUE}) {
            Check.noIndex("curve(" + year + ", 1, 1)", () -> x.curve(year, 1, 1));
            Check.noIndex("curve(" + year + ", -1, 0): the year comes first", () -> x.curve(year, -1, 0));
        }
        for (int age : new int[] {-1, 3001, Integer.MIN_VALUE, Integer.MAX_VALUE}) {
            Check.noArgument("curve(1, " + age + ", 1)", () -> x.curve(1, age, 1));
        }
        for (int spread : new int[] {0, -1, 101, Integer.MIN_VALUE, Integer.MAX_VALUE}) {
            Check.noArgument("curve(1, 1, " + spread + ")", () -> x.curve(1, 1, spread));
        }
        Check.same("wrong calls change nothing", Check.stateOf(x), before);
        Check.is("nor the row that a wrong call named", x.curve(1, 1, 1), false);
        Check.end();
    }
}
