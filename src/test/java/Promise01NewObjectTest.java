/** Promise 1: a new object is empty, and its years and unit are brought within their bounds. */
public final class Promise01NewObjectTest {
    public static void main(String[] args) {
        CurveSums x = new CurveSums(10, 1000);
        Check.same("new", Check.stateOf(x), "counts 10 1 0 0 0 0 0 slid 0 0 0 0 0 0 0 0 0 0 wiggle -1 spans");
        Check.is("NONE", CurveSums.NONE, -1);

        int[][] years = {{Integer.MIN_VALUE, 8}, {-1, 8}, {0, 8}, {7, 8}, {8, 8}, {9, 9}, {59, 59}, {60, 60}, {61, 60},
            {Integer.MAX_VALUE, 60}};
        for (int[] pair : years) {
            Check.is("years of " + pair[0], new CurveSums(pair[0], 1).count(0), pair[1]);
        }

        int[][] units = {{Integer.MIN_VALUE, 1}, {-1, 1}, {0, 1}, {1, 1}, {2, 2}, {65535, 65535}, {65536, 65536},
            {65537, 65536}, {Integer.MAX_VALUE, 65536}};
        for (int[] pair : units) {
            CurveSums u = new CurveSums(8, pair[0]);
            u.curve(0, 5, 1);
            u.date(5, 1);
            Check.is("the weight without a distance by the unit " + pair[0], u.weight(0, 0), pair[1]);
        }

        CurveSums other = new CurveSums(8, 1);
        other.curve(0, 1, 1);
        Check.is("rows of an object beside one with a row", new CurveSums(8, 1).count(6), 0);
        Check.end();
    }
}
