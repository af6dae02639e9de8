/** Promise 4: use. */
public final class Promise04UseTest {
    public static void main(String[] args) {
        CurveSums x = new CurveSums(8, 1000);
        Check.is("use(0) of 0", x.use(0), 0);
        Check.noIndex("use(1): there is one edition", () -> x.use(1));
        x.edition();
        x.edition();
        Check.is("use(0)", x.use(0), 2);
        Check.is("in use", x.count(2), 0);
        Check.is("use(1)", x.use(1), 0);
        Check.is("use(1) again", x.use(1), 1);
        x.curve(0, 10, 1);
        Check.is("rows of 1", x.count(6), 1);
        Check.is("use(2)", x.use(2), 1);
        Check.is("rows of 2", x.count(6), 0);
        String before = Check.stateOf(x);
        for (int edition : new int[] {-1, 3, 4, Integer.MIN_VALUE, Integer.MAX_VALUE}) {
            Check.noIndex("use(" + edition + ")", () -> x.use(edition));
        }
        Check.same("wrong calls change nothing", Check.stateOf(x), before);
        x.edition();
        Check.is("use(3)", x.use(3), 3);
        Check.noIndex("use(4)", () -> x.use(4));
        Check.end();
    }
}
