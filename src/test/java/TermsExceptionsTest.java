/** The document's terms: IndexOutOfBoundsException comes first, then IllegalArgumentException, then IllegalStateException. */
public final class TermsExceptionsTest {
    private static final String ORDER = "IndexOutOfBoundsException .. IllegalArgumentException, then IllegalStateException";

    public static void main(String[] args) {
        namesTheYearBeforeTheRow();
        namesTheRowBeforeTwelveDates();
        namesTheDateBeforeTwelveDates();
        namesTheDateBeforeTheShare();
        namesTheShareBeforeTwelveDates();
        namesTheDateBeforeTheGap();
        namesTheGapBeforeEightDates();
        namesTheDateBeforeEightDates();
        namesTheSignBeforeAHundredSigns();
        refusesWhileOthersAreFull();
        Check.end();
    }

    private static void namesTheYearBeforeTheRow() {
        Check.says(ORDER);
        for (int year : Check.beyond(0, 7)) {
            Check.noIndex("curve(" + year + ", -1, 1)", Sample::busy, x -> x.curve(year, -1, 1));
            Check.noIndex("curve(" + year + ", 1, 0)", Sample::busy, x -> x.curve(year, 1, 0));
            Check.noIndex("curve(" + year + ", 3001, 101)", Sample::busy, x -> x.curve(year, 3001, 101));
        }
    }

    private static void namesTheRowBeforeTwelveDates() {
        Check.says(ORDER);
        Check.noArgument("date(-1, 1) of twelve", Sample::withTwelveDates, x -> x.date(-1, 1));
        Check.noArgument("date(3001, 1) of twelve", Sample::withTwelveDates, x -> x.date(3001, 1));
        Check.noArgument("date(1, 0) of twelve", Sample::withTwelveDates, x -> x.date(1, 0));
        Check.noArgument("date(1, 101) of twelve", Sample::withTwelveDates, x -> x.date(1, 101));
    }

    private static void namesTheDateBeforeTwelveDates() {
        Check.says(ORDER);
        for (int date : Check.beyond(0, 11)) {
            Check.noIndex("sum(" + date + ", 0)", Sample::withTwelveDates, x -> x.sum(date, 0));
            Check.noIndex("sum(0, " + date + ")", Sample::withTwelveDates, x -> x.sum(0, date));
            Check.noIndex("mix(" + date + ", 0, 1, 2)", Sample::withTwelveDates, x -> x.mix(date, 0, 1, 2));
            Check.noIndex("mix(0, " + date + ", 1, 2)", Sample::withTwelveDates, x -> x.mix(0, date, 1, 2));
            Check.noIndex("joinRepeats(" + date + ", 0)", Sample::withTwelveDates, x -> x.joinRepeats(date, 0));
            Check.noIndex("joinRepeats(0, " + date + ")", Sample::withTwelveDates, x -> x.joinRepeats(0, date));
        }
    }

    private static void namesTheDateBeforeTheShare() {
        Check.says(ORDER);
        for (int date : Check.beyond(0, 4)) {
            Check.noIndex("mix(" + date + ", 0, 2, 1)", Sample::busy, x -> x.mix(date, 0, 2, 1));
            Check.noIndex("mix(0, " + date + ", 0, 0)", Sample::busy, x -> x.mix(0, date, 0, 0));
            Check.noIndex("mix(0, " + date + ", -1, 1)", Sample::busy, x -> x.mix(0, date, -1, 1));
            Check.noIndex("least(" + date + ", 0, 1)", Sample::busy, x -> x.least(date, 0, 1));
            Check.noIndex("least(" + date + ", 1, 1001)", Sample::busy, x -> x.least(date, 1, 1001));
        }
        Check.noIndex("mix(12, 0, 2, 1) of twelve", Sample::withTwelveDates, x -> x.mix(12, 0, 2, 1));
        Check.noIndex("mix(0, 12, 0, 0) of twelve", Sample::withTwelveDates, x -> x.mix(0, 12, 0, 0));
    }

    private static void namesTheShareBeforeTwelveDates() {
        Check.says(ORDER);
        Check.noArgument("mix(0, 1, 2, 1) of twelve", Sample::withTwelveDates, x -> x.mix(0, 1, 2, 1));
        Check.noArgument("mix(0, 1, 0, 0) of twelve", Sample::withTwelveDates, x -> x.mix(0, 1, 0, 0));
        Check.noArgument("mix(0, 1, -1, 1) of twelve", Sample::withTwelveDates, x -> x.mix(0, 1, -1, 1));
        Check.noArgument("mix(0, 1, 1, 1001) of twelve", Sample::withTwelveDates, x -> x.mix(0, 1, 1, 1001));
    }

    private static void namesTheDateBeforeTheGap() {
        Check.says(ORDER);
        for (int date : Check.beyond(0, 4)) {
            Check.noIndex("gap(" + date + ", 60)", Sample::busy, x -> x.gap(date, 60));
            Check.noIndex("gap(" + date + ", -1)", Sample::busy, x -> x.gap(date, -1));
            Check.noIndex("gap(" + date + ", 60) of eight", Sample::withEightInRow, x -> x.gap(date, 60));
        }
    }

    private static void namesTheGapBeforeEightDates() {
        Check.says(ORDER);
        Check.noArgument("gap(0, -1) of eight", Sample::withEightInRow, x -> x.gap(0, -1));
        Check.noArgument("gap(0, 60) of eight", Sample::withEightInRow, x -> x.gap(0, 60));
    }

    private static void namesTheDateBeforeEightDates() {
        Check.says(ORDER);
        Check.noIndex("gap(-1, 0) of eight", Sample::withEightInRow, x -> x.gap(-1, 0));
        Check.noIndex("gap(5, 0) of eight", Sample::withEightInRow, x -> x.gap(5, 0));
    }

    private static void namesTheSignBeforeAHundredSigns() {
        Check.says(ORDER);
        Check.noArgument("unit(31, 0) on a full pad", Sample::withFullPad, x -> x.unit(31, 0));
        Check.noArgument("unit(0, 127) on a full pad", Sample::withFullPad, x -> x.unit(0, 127));
        Check.noArgument("unit(32, 127 << 24) on a full pad", Sample::withFullPad, x -> x.unit(32, 127 << 24));
    }

    // What is full is of no account for a call that needs no room there.
    private static void refusesWhileOthersAreFull() {
        Check.says("Such a call changes nothing.");
        Check.noIndex("curve(8, 1, 1)", Sample::full, x -> x.curve(8, 1, 1));
        Check.noArgument("curve(0, 3001, 1)", Sample::full, x -> x.curve(0, 3001, 1));
        Check.noIndex("use(4)", Sample::full, x -> x.use(4));
        Check.noArgument("reservoir(1001, 0)", Sample::full, x -> x.reservoir(1001, 0));
        Check.noIndex("weight(12, 0)", Sample::full, x -> x.weight(12, 0));
        Check.noIndex("total(12)", Sample::full, x -> x.total(12));
        Check.noIndex("least(12, 1, 2)", Sample::full, x -> x.least(12, 1, 2));
        Check.noArgument("least(11, 0, 2)", Sample::full, x -> x.least(11, 0, 2));
        Check.noIndex("span(8, 0)", Sample::full, x -> x.span(8, 0));
        Check.noIndex("slid(8)", Sample::full, x -> x.slid(8));
        Check.noIndex("count(7)", Sample::full, x -> x.count(7));
    }
}
