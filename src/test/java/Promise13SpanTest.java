/** Promise 13: span. */
public final class Promise13SpanTest {
    private static final int N = CurveSums.NONE;

    public static void main(String[] args) {
        CurveSums x = Check.withDistances(0, 0, N, 0, N, 1, 1, 1);
        Check.noIndex("span before any least set", () -> x.span(0, 0));
        Check.is("least", x.least(0, 1, 1), 3);
        int[][] due = {{0, 1}, {3, 3}, {5, 7}};
        for (int k = 0; k < 3; k++) {
            Check.is("span(" + k + ", 0)", x.span(k, 0), due[k][0]);
            Check.is("span(" + k + ", 1)", x.span(k, 1), due[k][1]);
        }
        for (int k : new int[] {-1, 3, 60, Integer.MIN_VALUE, Integer.MAX_VALUE}) {
            Check.noIndex("span(" + k + ", 0)", () -> x.span(k, 0));
            Check.noIndex("span(" + k + ", 1)", () -> x.span(k, 1));
        }
        for (int end : new int[] {-1, 2, Integer.MIN_VALUE, Integer.MAX_VALUE}) {
            Check.noIndex("span(0, " + end + ")", () -> x.span(0, end));
        }
        x.date(1001, 1);
        Check.is("another date changes nothing", x.span(2, 1), 7);
        Check.noArgument("nor does a wrong least", () -> x.least(1, 2, 1));
        Check.is("the latest least set is still there", x.span(2, 1), 7);
        Check.is("the latest counts", x.least(1, 1, 3), 1);
        Check.is("first", x.span(0, 0), 5);
        Check.is("last", x.span(0, 1), 6);
        Check.noIndex("a span of the one before", () -> x.span(1, 0));
        x.date(0, 1);
        x.least(2, 1, 1);
        Check.noIndex("an empty set has no span", () -> x.span(0, 0));
        Check.end();
    }
}
