/** The document's first part: an object answers 512 calls. */
public final class TermsCallsTest {
    private static final int CALLS = 512;

    public static void main(String[] args) {
        answersAsManyChangingCalls();
        answersAsManyRefusedCalls();
        answersAsManyRows();
        Check.end();
    }

    private static void answersAsManyChangingCalls() {
        Check.says("An object is used for at most 512 calls");
        CurveSums x = Sample.fresh();
        for (int made = 0; made < CALLS - 2; made += 2) {
            int year = made / 2 % 8;
            Check.is("curve, call " + (made + 1), x.curve(year, made, 10), made / 2 >= 8);
            Check.is("count(6), call " + (made + 2), x.count(6), Math.min(8, made / 2 + 1));
        }
        // Year 6 was told last, with made 508.
        Check.is("date, call 511", x.date(508, 10), 0);
        Check.is("weight, call 512", x.weight(0, 508 / 2 % 8), 1000);
    }

    private static void answersAsManyRefusedCalls() {
        Check.says("Such a call changes nothing.");
        CurveSums x = Sample.fresh();
        x.edition();
        x.edition();
        x.edition();
        int refused = 0;
        for (int made = 3; made < CALLS - 1; made++) {
            try {
                x.edition();
            } catch (IllegalStateException e) {
                refused++;
            }
        }
        Check.is("refused", refused, CALLS - 4);
        Check.is("count(1), call 512", x.count(1), 4);
    }

    private static void answersAsManyRows() {
        Check.says("An object is used for at most 512 calls");
        CurveSums x = Sample.fresh();
        x.date(1, 1);
        for (int made = 1; made < CALLS - 2; made += 2) {
            Check.is("gap, call " + (made + 1), x.gap(0, 59), 1);
            Check.is("clear, call " + (made + 2), x.clear(), 1);
        }
        Check.is("count(4), call 512", x.count(4), 0);
    }
}
