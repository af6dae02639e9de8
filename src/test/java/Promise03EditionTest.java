/** Promise 3: edition. */
public final class Promise03EditionTest {
    public static void main(String[] args) {
        answersItsNumberAndComesIntoUse();
        isAsTheOneInUse();
        isEmptyAsTheOneInUse();
        isNotTheOneInUse();
        leavesAllElse();
        refusesAFifth();
        refusesAFifthWhicheverIsInUse();
        Check.end();
    }

    private static void answersItsNumberAndComesIntoUse() {
        Check.says("A new edition .. comes into use: its number.");
        CurveSums x = Sample.fresh();
        for (int number = 1; number < 4; number++) {
            Check.is("edition", x.edition(), number);
            Check.is("editions", x.count(1), number + 1);
            Check.is("in use", x.count(2), number);
        }
        CurveSums y = Sample.fresh();
        y.edition();
        y.use(0);
        Check.is("edition while 0 is in use", y.edition(), 2);
        Check.is("in use", y.count(2), 2);
    }

    private static void isAsTheOneInUse() {
        Check.says("A new edition, as that in use is");
        CurveSums x = Sample.fresh();
        x.curve(0, 200, 10);
        x.curve(7, 0, 1);
        x.edition();
        Check.is("rows as in 0", x.count(6), 2);
        x.curve(0, 400, 20);
        x.curve(5, 500, 10);
        x.use(0);
        x.edition();
        Check.is("rows as in 0, not as in 1", x.count(6), 2);
        x.date(200, 10);
        Check.weights(x, 0, 1000, 0, 0, 0, 0, 0, 0, 0);
        x.date(0, 1);
        Check.weights(x, 1, 0, 0, 0, 0, 0, 0, 0, 1000);
        x.use(1);
        x.edition();
        Check.is("rows as in 1, not as in 2", x.count(6), 3);
        x.date(400, 20);
        // year 5: 500, 10000
        Check.weights(x, 2, 1000, 0, 0, 0, 0, 2, 0, 0);
        Check.is("the row came along", x.curve(7, 1, 1), true);
        Check.is("no other came along", x.curve(6, 1, 1), false);
    }

    private static void isEmptyAsTheOneInUse() {
        Check.says("A new edition, as that in use is");
        CurveSums x = Sample.fresh();
        x.edition();
        for (int year = 0; year < 8; year++) {
            x.curve(year, 1000, 10);
        }
        x.use(0);
        x.edition();
        Check.is("rows as in 0", x.count(6), 0);
        x.date(1000, 10);
        Check.is("total", x.total(0), 0);
    }

    private static void isNotTheOneInUse() {
        Check.says("A new edition, as that in use is");
        CurveSums x = Sample.fresh();
        x.curve(0, 200, 10);
        x.edition();
        x.curve(0, 300, 10);
        x.curve(1, 300, 10);
        x.use(0);
        Check.is("a row told to 1 is not in 0", x.count(6), 1);
        x.date(200, 10);
        Check.weights(x, 0, 1000, 0, 0, 0, 0, 0, 0, 0);
        x.curve(0, 700, 10);
        x.curve(7, 700, 10);
        x.use(1);
        Check.is("a row told to 0 later is not in 1", x.count(6), 2);
        x.date(300, 10);
        Check.weights(x, 1, 1000, 1000, 0, 0, 0, 0, 0, 0);
    }

    private static void leavesAllElse() {
        CurveSums x = Sample.busy();
        CurveSums y = Sample.busy();
        x.edition();
        for (int what : new int[] {0, 3, 4, 5}) {
            Check.is("count(" + what + ")", x.count(what), y.count(what));
        }
        for (int date = 0; date < 5; date++) {
            Check.is("total(" + date + ")", x.total(date), y.total(date));
        }
        Check.is("wiggle", x.wiggle(), y.wiggle());
        Check.same("the least set", Reveal.spans(x), Reveal.spans(y));
        Check.is("a date with the reservoir", x.total(x.date(1015, 12)), y.total(y.date(1015, 12)));
        Check.is("read", x.read(), y.read());
    }

    private static void refusesAFifth() {
        Check.says("IllegalStateException: there are four.");
        Check.noState("a fifth edition", Sample::withFourEditions, CurveSums::edition);
        Check.noState("a fifth edition of a full object", Sample::full, CurveSums::edition);
    }

    private static void refusesAFifthWhicheverIsInUse() {
        Check.says("IllegalStateException: there are four.");
        for (int number = 0; number < 4; number++) {
            int inUse = number;
            Check.noState("a fifth edition while " + inUse + " is in use", () -> {
                CurveSums x = Sample.withFourEditions();
                x.use(inUse);
                return x;
            }, CurveSums::edition);
        }
    }
}
