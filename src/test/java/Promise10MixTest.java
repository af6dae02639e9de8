/** Promise 10: mix. */
public final class Promise10MixTest {
    private static final int N = CurveSums.NONE;

    public static void main(String[] args) {
        CurveSums x = Check.withDistances(4, 3, 2, 1, 0, N, 0, 1);
        x.date(1001, 1);
        Check.is("mix", x.mix(0, 1, 1, 3), 2);
        for (int year = 0; year < 8; year++) {
            Check.is("one of three, two of three", x.weight(2, year), (x.weight(0, year) + 2 * x.weight(1, year)) / 3);
        }
        Check.is("year 1: (29 + 2 * 100) / 3", x.weight(2, 1), 76);
        x.mix(0, 1, 0, 1000);
        x.mix(0, 1, 1000, 1000);
        x.mix(0, 1, 1, 1);
        x.mix(0, 1, 0, 1);
        for (int year = 0; year < 8; year++) {
            Check.is("nothing of a", x.weight(3, year), x.weight(1, year));
            Check.is("all of a", x.weight(4, year), x.weight(0, year));
            Check.is("all of a", x.weight(5, year), x.weight(0, year));
            Check.is("nothing of a", x.weight(6, year), x.weight(1, year));
        }
        Check.is("a mixture is not measured", x.joinRepeats(0, 5), N);
        Check.is("nor is it on the left", x.joinRepeats(5, 0), N);

        String before = Check.stateOf(x);
        for (int date : new int[] {-1, 7, 12, Integer.MIN_VALUE, Integer.MAX_VALUE}) {
            Check.noIndex("mix(" + date + ", 0, 1, 2)", () -> x.mix(date, 0, 1, 2));
            Check.noIndex("mix(0, " + date + ", 1, 2)", () -> x.mix(0, date, 1, 2));
            Check.noIndex("mix(0, " + date + ", 2, 1): the date comes first", () -> x.mix(0, date, 2, 1));
        }
        int[][] shares = {{-1, 2}, {3, 2}, {0, 0}, {1, 0}, {-1, 0}, {-2, -1}, {0, -1}, {1, 1001}, {1001, 1001}, {0, 1001},
            {Integer.MIN_VALUE, 1}, {1, Integer.MAX_VALUE}, {Integer.MAX_VALUE, Integer.MAX_VALUE},
            {Integer.MIN_VALUE, Integer.MIN_VALUE}};
        for (int[] share : shares) {
            Check.noArgument("mix(0, 1, " + share[0] + ", " + share[1] + ")", () -> x.mix(0, 1, share[0], share[1]));
        }
        Check.same("wrong calls change nothing", Check.stateOf(x), before);
        for (int date = 7; date < 12; date++) {
            Check.is("mix", x.mix(0, 1, 1, 2), date);
        }
        before = Check.stateOf(x);
        Check.noState("a thirteenth", () -> x.mix(0, 1, 1, 2));
        Check.noArgument("a thirteenth with a wrong share", () -> x.mix(0, 1, 2, 1));
        Check.noArgument("a thirteenth by 0", () -> x.mix(0, 1, 0, 0));
        Check.noIndex("a thirteenth of no date", () -> x.mix(12, 1, 1, 2));
        Check.same("wrong calls change nothing", Check.stateOf(x), before);

        CurveSums y = new CurveSums(8, 62500);
        y.curve(0, 5, 1);
        y.date(5, 1);
        for (int date = 0; date < 4; date++) {
            y.sum(date, date);
        }
        y.mix(4, 4, 500, 1000);
        Check.is("of great weights", y.weight(5, 0), 1000000);
        y.mix(4, 0, 999, 1000);
        Check.is("of a great and a small one: 999000 + 62.5", y.weight(6, 0), 999062);
        Check.end();
    }
}
