/** Promise 17: clear. */
public final class Promise17ClearTest {
    private static final int N = CurveSums.NONE;

    public static void main(String[] args) {
        answersHowManyThereWere();
        leavesNoDatesInTheRow();
        clearsAnEmptyRow();
        clearsAFullRow();
        leavesNothingOfTheRowBehind();
        leavesAllElse();
        Check.end();
    }

    private static void answersHowManyThereWere() {
        Check.says("No dates in the row any more: how many there were.");
        CurveSums x = Sample.withDistances(0, 1, 2, 3, 4, N, 1, 0);
        for (int size = 1; size <= 8; size++) {
            for (int i = 0; i < size; i++) {
                x.gap(0, i);
            }
            Check.is("clear of " + size, x.clear(), size);
        }
    }

    private static void leavesNoDatesInTheRow() {
        Check.says("No dates in the row any more");
        CurveSums x = Sample.busy();
        x.clear();
        Check.is("dates of the row", x.count(4), 0);
        Check.slids(x, 0, 0, 0, 0, 0, 0, 0, 0);
        Check.is("wiggle", x.wiggle(), N);
    }

    private static void clearsAnEmptyRow() {
        Check.says("how many there were");
        Check.is("clear of a new object", Sample.fresh().clear(), 0);
        Check.changesNothing("clear of an empty row", Sample::fresh, CurveSums::clear);
        CurveSums x = Sample.busy();
        x.clear();
        Check.is("clear again", x.clear(), 0);
    }

    private static void clearsAFullRow() {
        Check.says("how many there were");
        CurveSums x = Sample.withEightInRow();
        Check.is("clear", x.clear(), 8);
        Check.is("dates of the row", x.count(4), 0);
    }

    private static void leavesNothingOfTheRowBehind() {
        Check.says("No dates in the row any more");
        CurveSums x = Sample.withDistances(0, 1, 2, 3, 4, N, 1, 0);
        x.gap(0, 3);
        x.gap(0, 1);
        x.clear();
        Check.is("gap", x.gap(0, 0), 1);
        Check.slids(x, 900, 400, 100, 29, 11, 0, 400, 900);
    }

    private static void leavesAllElse() {
        Check.says("No dates in the row any more");
        CurveSums x = Sample.busy();
        CurveSums y = Sample.busy();
        x.clear();
        for (int what : new int[] {0, 1, 2, 3, 5, 6}) {
            Check.is("count(" + what + ")", x.count(what), y.count(what));
        }
        for (int date = 0; date < 5; date++) {
            Check.is("total(" + date + ")", x.total(date), y.total(date));
        }
        Check.same("the least set", Reveal.spans(x), Reveal.spans(y));
        Check.is("a date with the reservoir", x.total(x.date(1015, 12)), y.total(y.date(1015, 12)));
        Check.is("read", x.read(), y.read());
    }
}
