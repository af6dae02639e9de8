/** Promise 5: reservoir. */
public final class Promise05ReservoirTest {
    public static void main(String[] args) {
        CurveSums x = new CurveSums(8, 1000);
        x.curve(0, 300, 10);
        x.date(350, 10);
        Check.is("without a reservoir: 200, 2500", x.weight(0, 0), 5);
        x.reservoir(50, 0);
        Check.is("the date that was told stays", x.weight(0, 0), 5);
        x.date(350, 10);
        Check.is("age 350 - 50", x.weight(1, 0), 1000);
        x.reservoir(0, 30);
        x.date(350, 10);
        Check.is("V is 100 and 900: 1100, 2500", x.weight(2, 0), 93);
        x.reservoir(-50, 30);
        x.date(200, 10);
        Check.is("age 200 + 50: 1100, 2500", x.weight(3, 0), 93);
        x.reservoir(0, 0);
        x.date(350, 10);
        Check.is("none again", x.weight(4, 0), 5);

        x.reservoir(50, 0);
        for (int age : new int[] {-1001, 1001, Integer.MIN_VALUE, Integer.MAX_VALUE}) {
            Check.noArgument("reservoir(" + age + ", 0)", () -> x.reservoir(age, 0));
        }
        for (int spread : new int[] {-1, 101, Integer.MIN_VALUE, Integer.MAX_VALUE}) {
            Check.noArgument("reservoir(0, " + spread + ")", () -> x.reservoir(0, spread));
        }
        x.date(350, 10);
        Check.is("wrong calls leave the reservoir", x.weight(5, 0), 1000);

        x.curve(1, 3000, 100);
        x.reservoir(1000, 100);
        x.date(0, 100);
        Check.is("the greatest distance: 30000, 16000000", x.weight(6, 1), 0);
        x.reservoir(-1000, 0);
        x.date(2000, 100);
        Check.is("the least reservoir", x.weight(7, 1), 1000);
        Check.end();
    }
}
