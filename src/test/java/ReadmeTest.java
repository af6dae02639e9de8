/** The example of README.md, call by call, with the answers that stand there. */
public final class ReadmeTest {
    public static void main(String[] args) {
        CurveSums x = new CurveSums(10, 1000);
        tellsDates(x);
        findsYears(x);
        slidesTheRow(x);
        readsAText(x);
        answersThePlaceOfAFault(x);
        Check.end();
    }

    private static void tellsDates(CurveSums x) {
        Check.is("curve(2, 310, 12)", x.curve(2, 310, 12), false);
        Check.is("curve(3, 322, 10)", x.curve(3, 322, 10), false);
        x.reservoir(0, 0);
        Check.is("date(320, 10)", x.date(320, 10), 0);
        Check.is("date(330, 20)", x.date(330, 20), 1);
        Check.is("weight(0, 3)", x.weight(0, 3), 961);
        Check.is("total(0)", x.total(0), 1464);
        Check.is("joinRepeats(0, 1)", x.joinRepeats(0, 1), 2);
        Check.is("sum(0, 1)", x.sum(0, 1), 3);
        Check.is("mix(0, 1, 1, 4)", x.mix(0, 1, 1, 4), 4);
        Check.is("weight(4, 3)", x.weight(4, 3), 829);
    }

    private static void findsYears(CurveSums x) {
        Check.is("least(0, 19, 20)", x.least(0, 19, 20), 1);
        Check.is("span(0, 0)", x.span(0, 0), 2);
        Check.is("span(0, 1)", x.span(0, 1), 3);
    }

    private static void slidesTheRow(CurveSums x) {
        Check.is("gap(0, 0)", x.gap(0, 0), 1);
        Check.is("gap(1, 1)", x.gap(1, 1), 2);
        Check.is("slid(2)", x.slid(2), 1288);
        Check.is("wiggle()", x.wiggle(), 2);
        Check.is("clear()", x.clear(), 2);
    }

    private static void readsAText(CurveSums x) {
        Check.is("edition()", x.edition(), 1);
        Check.is("unit(0x33333a34, 0x31312b30)", x.unit(0x33333a34, 0x31312b30), 8);
        Check.is("read()", x.read(), 1);
        Check.is("count(6)", x.count(6), 3);
        Check.is("use(0)", x.use(0), 1);
        Check.is("count(6)", x.count(6), 2);
    }

    private static void answersThePlaceOfAFault(CurveSums x) {
        Check.is("read of '2:310+12;3:322+10'", Sample.read(x, "2:310+12;3:322+10"), 2);
        Check.is("read of '4:3x'", Sample.read(x, "4:3x"), -4);
        Check.is("read of '4:33'", Sample.read(x, "4:33"), -5);
        Check.is("count(5)", x.count(5), 0);
    }
}
