/** Promise 4: use. */
public final class Promise04UseTest {
    public static void main(String[] args) {
        answersTheOneThatWas();
        bringsItsRowsIntoUse();
        takesTheOneInUse();
        refusesEditionsThatAreNotThere();
        hasTheFourthOnceItIsThere();
        Check.end();
    }

    private static void answersTheOneThatWas() {
        Check.says("An edition comes into use: the one that was.");
        CurveSums x = Sample.fresh();
        x.edition();
        x.edition();
        Check.is("use(0)", x.use(0), 2);
        Check.is("in use", x.count(2), 0);
        Check.is("use(1)", x.use(1), 0);
        Check.is("in use", x.count(2), 1);
        Check.is("use(2)", x.use(2), 1);
        Check.is("in use", x.count(2), 2);
        Check.is("editions", x.count(1), 3);
    }

    private static void bringsItsRowsIntoUse() {
        Check.says("An edition comes into use");
        CurveSums x = Sample.fresh();
        x.edition();
        x.curve(0, 10, 1);
        x.use(0);
        Check.is("rows of 0", x.count(6), 0);
        x.date(10, 1);
        Check.is("by edition 0", x.total(0), 0);
        x.use(1);
        Check.is("rows of 1", x.count(6), 1);
        x.date(10, 1);
        Check.is("by edition 1", x.total(1), 1000);
        Sample.read(x, "3:10+1");
        x.use(0);
        Check.is("a row that was read while 1 was in use", x.count(6), 0);
    }

    private static void takesTheOneInUse() {
        Check.says("An edition comes into use: the one that was.");
        Check.is("use(0) of a new object", Sample.fresh().use(0), 0);
        Check.is("use(1) while 1 is in use", Sample.busy().use(1), 1);
        Check.changesNothing("use(1) while 1 is in use", Sample::busy, x -> x.use(1));
    }

    private static void refusesEditionsThatAreNotThere() {
        Check.says("IndexOutOfBoundsException: there is no such .. edition");
        for (int edition : Check.beyond(0, 0)) {
            Check.noIndex("use(" + edition + ") of one", Sample::fresh, x -> x.use(edition));
        }
        for (int edition : Check.beyond(0, 2)) {
            Check.noIndex("use(" + edition + ") of three", Sample::busy, x -> x.use(edition));
        }
        for (int edition : Check.beyond(0, 3)) {
            Check.noIndex("use(" + edition + ") of four", Sample::withFourEditions, x -> x.use(edition));
        }
    }

    private static void hasTheFourthOnceItIsThere() {
        Check.says("EDITIONS 0 .. 3");
        CurveSums x = Sample.withFourEditions();
        Check.is("use(3)", x.use(3), 1);
        Check.is("in use", x.count(2), 3);
        Check.is("use(0)", x.use(0), 3);
        Check.is("in use", x.count(2), 0);
    }
}
