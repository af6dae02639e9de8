/** Promise 20: count. */
public final class Promise20CountTest {
    public static void main(String[] args) {
        countsANewObject();
        countsYears();
        countsEditions();
        tellsTheEditionInUse();
        countsDates();
        countsDatesOfTheRow();
        countsSigns();
        countsRowsOfTheEditionInUse();
        countsAFullObject();
        refusesAllElse();
        changesNothing();
        Check.end();
    }

    private static void isCount(CurveSums x, int... due) {
        for (int what = 0; what < due.length; what++) {
            Check.is("count(" + what + ")", x.count(what), due[what]);
        }
    }

    private static void countsANewObject() {
        Check.says("Edition 0 without rows; no dates; an empty row of dates; an empty pad.");
        isCount(new CurveSums(20, 1000), 20, 1, 0, 0, 0, 0, 0);
    }

    private static void countsYears() {
        Check.says("0 years");
        for (int years = 8; years <= 60; years++) {
            Check.is("count(0)", new CurveSums(years, 1).count(0), years);
        }
    }

    private static void countsEditions() {
        Check.says("1 editions");
        CurveSums x = Sample.fresh();
        for (int editions = 2; editions <= 4; editions++) {
            x.edition();
            Check.is("count(1)", x.count(1), editions);
        }
        x.use(0);
        Check.is("count(1)", x.count(1), 4);
    }

    private static void tellsTheEditionInUse() {
        Check.says("2 the edition in use");
        CurveSums x = Sample.withFourEditions();
        for (int edition = 3; edition >= 0; edition--) {
            x.use(edition);
            Check.is("count(2)", x.count(2), edition);
        }
    }

    private static void countsDates() {
        Check.says("3 dates");
        CurveSums x = Sample.fresh();
        x.date(1, 1);
        Check.is("a date", x.count(3), 1);
        x.sum(0, 0);
        Check.is("a sum", x.count(3), 2);
        x.mix(0, 1, 1, 2);
        Check.is("a mixture", x.count(3), 3);
        x.joinRepeats(0, 0);
        Check.is("a joined one", x.count(3), 4);
        x.joinRepeats(0, 1);
        Check.is("none", x.count(3), 4);
    }

    private static void countsDatesOfTheRow() {
        Check.says("4 dates of the row");
        CurveSums x = Sample.fresh();
        x.date(1, 1);
        for (int size = 1; size <= 8; size++) {
            x.gap(0, 59);
            Check.is("count(4)", x.count(4), size);
        }
        x.clear();
        Check.is("count(4)", x.count(4), 0);
    }

    private static void countsSigns() {
        Check.says("5 signs");
        CurveSums x = Sample.fresh();
        x.unit(0x202020, 0x20202020);
        Check.is("seven", x.count(5), 7);
        x.unit(0x202020, 0);
        Check.is("ten", x.count(5), 10);
        x.read();
        Check.is("none", x.count(5), 0);
    }

    private static void countsRowsOfTheEditionInUse() {
        Check.says("6 rows of the edition in use");
        CurveSums x = new CurveSums(60, 1);
        for (int year = 0; year < 60; year++) {
            x.curve(year, 1, 1);
            Check.is("a new row", x.count(6), year + 1);
            x.curve(year, 2, 2);
            Check.is("the row again", x.count(6), year + 1);
        }
        CurveSums y = Sample.busy();
        Check.is("rows of 1", y.count(6), 4);
        y.use(0);
        Check.is("rows of 0", y.count(6), 3);
        y.use(2);
        Check.is("rows of 2", y.count(6), 5);
        y.read();
        Check.is("one more that was read", y.count(6), 6);
    }

    private static void countsAFullObject() {
        isCount(Sample.full(), 8, 4, 1, 12, 8, 100, 4);
    }

    private static void refusesAllElse() {
        Check.says("IndexOutOfBoundsException: none of these.");
        for (int what : Check.beyond(0, 6)) {
            Check.noIndex("count(" + what + ")", Sample::busy, x -> x.count(what));
            Check.noIndex("count(" + what + ") of a new object", Sample::fresh, x -> x.count(what));
        }
    }

    private static void changesNothing() {
        for (int number = 0; number <= 6; number++) {
            int what = number;
            Check.changesNothing("count(" + what + ")", Sample::busy, x -> x.count(what));
        }
    }
}
