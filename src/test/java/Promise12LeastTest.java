/** Promise 12: least. */
public final class Promise12LeastTest {
    private static final int N = CurveSums.NONE;

    public static void main(String[] args) {
        CurveSums x = Check.withDistances(4, 3, 2, 1, 0, N, 0, 1);
        // 11 29 100 400 900 0 900 400, 2740 in all
        String[][] due = {
            {"1", "1000", " spans 4-4"}, {"900", "1000", " spans 3-4 6-7"}, {"1", "2", " spans 4-4 6-6"},
            {"2", "3", " spans 3-4 6-6"}, {"3", "4", " spans 3-4 6-6"}, {"4", "5", " spans 3-4 6-6"},
            {"9", "10", " spans 3-4 6-7"}, {"19", "20", " spans 2-4 6-7"},
            {"99", "100", " spans 1-4 6-7"}, {"1", "1", " spans 0-4 6-7"}, {"1000", "1000", " spans 0-4 6-7"}};
        for (String[] each : due) {
            int above = Integer.parseInt(each[0]);
            int below = Integer.parseInt(each[1]);
            int spans = x.least(0, above, below);
            Check.same("least(0, " + above + ", " + below + ")", Check.spansOf(x), each[2]);
            Check.is("how many spans", spans, each[2].split(" ").length - 2);
        }

        CurveSums even = Check.withDistances(0, N, 0, 1, 1, 2, 0, N);
        // 900 0 900 400 400 100 900 0, 3600 in all: 1 of 4 is 900, 1 of 2 is 1800, 3 of 4 is 2700
        Check.is("just a quarter", even.least(0, 1, 4), 1);
        Check.same("just a quarter", Check.spansOf(even), " spans 0-0");
        Check.is("above a quarter", even.least(0, 251, 1000), 2);
        Check.same("above a quarter", Check.spansOf(even), " spans 0-0 2-2");
        Check.is("just half", even.least(0, 1, 2), 2);
        Check.same("just half", Check.spansOf(even), " spans 0-0 2-2");
        Check.is("above half", even.least(0, 501, 1000), 3);
        Check.same("above half", Check.spansOf(even), " spans 0-0 2-2 6-6");
        Check.is("just three quarters", even.least(0, 3, 4), 3);
        Check.same("just three quarters", Check.spansOf(even), " spans 0-0 2-2 6-6");
        Check.is("above three quarters", even.least(0, 751, 1000), 3);
        Check.same("above three quarters, of equal ones the earlier", Check.spansOf(even), " spans 0-0 2-3 6-6");
        Check.is("all", even.least(0, 1, 1), 2);
        Check.same("all, but years with a weight of 0", Check.spansOf(even), " spans 0-0 2-6");

        String before = Check.stateOf(even);
        for (int date : new int[] {-1, 1, 12, Integer.MIN_VALUE, Integer.MAX_VALUE}) {
            Check.noIndex("least(" + date + ", 1, 2)", () -> even.least(date, 1, 2));
            Check.noIndex("least(" + date + ", 0, 2): the date comes first", () -> even.least(date, 0, 2));
        }
        int[][] shares = {{0, 1}, {-1, 2}, {3, 2}, {0, 0}, {1, 0}, {-2, -1}, {1, 1001}, {1001, 1001},
            {Integer.MIN_VALUE, 1}, {1, Integer.MAX_VALUE}, {Integer.MAX_VALUE, Integer.MAX_VALUE},
            {Integer.MIN_VALUE, Integer.MIN_VALUE}};
        for (int[] share : shares) {
            Check.noArgument("least(0, " + share[0] + ", " + share[1] + ")", () -> even.least(0, share[0], share[1]));
        }
        Check.same("wrong calls change nothing", Check.stateOf(even), before);
        even.date(0, 1);
        Check.is("all weights are 0", even.least(1, 1, 1), 0);
        Check.same("all weights are 0", Check.spansOf(even), " spans");

        CurveSums great = new CurveSums(60, 62500);
        for (int year = 0; year < 60; year += 2) {
            great.curve(year, 5, 1);
        }
        great.date(5, 1);
        for (int date = 0; date < 4; date++) {
            great.sum(date, date);
        }
        Check.is("thirty spans", great.least(4, 1000, 1000), 30);
        Check.is("the last", great.span(29, 1), 58);
        Check.is("fifteen of them", great.least(4, 1, 2), 15);
        Check.is("fifteen of them", great.span(14, 0), 28);

        CurveSums ones = new CurveSums(8, 1);
        for (int year = 2; year < 5; year++) {
            ones.curve(year, 5, 1);
        }
        ones.date(5, 1);
        Check.is("one of three has less than two of five", ones.least(0, 2, 5), 1);
        Check.same("so two are due", Check.spansOf(ones), " spans 2-3");
        ones.least(0, 1, 3);
        Check.same("one of three has one of three", Check.spansOf(ones), " spans 2-2");
        ones.least(0, 667, 1000);
        Check.same("two of three have less", Check.spansOf(ones), " spans 2-4");

        CurveSums whole = Check.withDistances(0, 1, 2, 3, 4, 3, 2, 1);
        Check.is("all years", whole.least(0, 1, 1), 1);
        Check.same("all years", Check.spansOf(whole), " spans 0-7");
        Check.end();
    }
}
