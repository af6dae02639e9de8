/** Promise 6: date, and the weights of measured dates. */
public final class Promise06DateTest {
    public static void main(String[] args) {
        CurveSums x = new CurveSums(8, 1000);
        x.curve(0, 300, 10);
        x.curve(1, 310, 20);
        x.curve(2, 3000, 100);
        x.curve(3, 0, 1);
        Check.is("date", x.date(300, 10), 0);
        Check.is("no distance", x.weight(0, 0), 1000);
        Check.is("500, 100: 1000 * 250000 / 360000", x.weight(0, 1), 694);
        Check.is("10100, 7290000", x.weight(0, 2), 0);
        Check.is("101, 90000", x.weight(0, 3), 0);
        Check.is("no row", x.weight(0, 4), 0);
        Check.is("total", x.total(0), 1694);
        Check.is("another", x.date(320, 10), 1);
        Check.is("on the other side: 500, 100", x.weight(1, 1), 694);
        Check.is("200, 400: 1000 * 40000 / 360000", x.weight(1, 0), 111);
        Check.is("least age and spread", x.date(0, 1), 2);
        Check.is("2, 0", x.weight(2, 3), 1000);
        Check.is("greatest age and spread", x.date(3000, 100), 3);
        Check.is("20000, 0", x.weight(3, 2), 1000);

        String before = Check.stateOf(x);
        for (int age : new int[] {-1, 3001, Integer.MIN_VALUE, Integer.MAX_VALUE}) {
            Check.noArgument("date(" + age + ", 1)", () -> x.date(age, 1));
        }
        for (int spread : new int[] {0, -1, 101, Integer.MIN_VALUE, Integer.MAX_VALUE}) {
            Check.noArgument("date(1, " + spread + ")", () -> x.date(1, spread));
        }
        Check.same("wrong calls change nothing", Check.stateOf(x), before);

        for (int date = 4; date < 12; date++) {
            Check.is("date", x.date(300, 10), date);
        }
        before = Check.stateOf(x);
        Check.noState("a thirteenth", () -> x.date(300, 10));
        Check.noArgument("a thirteenth with a wrong age", () -> x.date(-1, 10));
        Check.noArgument("a thirteenth with a wrong spread", () -> x.date(300, 0));
        Check.same("wrong calls change nothing", Check.stateOf(x), before);

        CurveSums wide = new CurveSums(60, 65536);
        wide.curve(59, 2900, 100);
        wide.reservoir(0, 100);
        wide.date(3000, 100);
        Check.is("30000, 10000 by the greatest unit", wide.weight(0, 59), 36864);
        wide.reservoir(-1000, 100);
        wide.date(3000, 100);
        Check.is("30000, 1210000", wide.weight(1, 59), 38);
        Check.end();
    }
}
