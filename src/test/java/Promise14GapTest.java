/** Promise 14: gap. */
public final class Promise14GapTest {
    private static final int N = CurveSums.NONE;

    public static void main(String[] args) {
        answersHowManyTheRowHas();
        comesBehindTheRow();
        hasTheSameDateTwice();
        hasTheLeastAndTheGreatestGap();
        hasTheLastDate();
        refusesOtherDates();
        refusesOtherGaps();
        hasEight();
        refusesANinth();
        hasRoomAgainAfterClear();
        Check.end();
    }

    /** Date 0 has 900 400 100 29 11 0 0 0. */
    private static CurveSums withOne() {
        return Sample.withDistances(0, 1, 2, 3, 4, N, N, N);
    }

    private static void answersHowManyTheRowHas() {
        Check.says("A date behind the row of dates: how many it has.");
        CurveSums x = withOne();
        x.date(1001, 1);
        Check.is("gap", x.gap(1, 0), 1);
        Check.is("dates of the row", x.count(4), 1);
        Check.is("gap", x.gap(0, 5), 2);
        Check.is("dates of the row", x.count(4), 2);
        Check.is("dates", x.count(3), 2);
    }

    private static void comesBehindTheRow() {
        Check.says("A date behind the row of dates");
        CurveSums x = withOne();
        x.gap(0, 1);
        Check.slids(x, 400, 100, 29, 11, 0, 0, 0, 0);
        x.gap(0, 3);
        Check.slids(x, 429, 111, 29, 11, 0, 0, 0, 0);
    }

    private static void hasTheSameDateTwice() {
        Check.says("A date behind the row of dates");
        CurveSums x = withOne();
        x.gap(0, 0);
        Check.is("the same again", x.gap(0, 0), 2);
        Check.slids(x, 1800, 800, 200, 58, 22, 0, 0, 0);
    }

    private static void hasTheLeastAndTheGreatestGap() {
        Check.says("a GAP 0 .. 59");
        CurveSums x = new CurveSums(60, 900);
        x.curve(0, 1001, 1);
        x.curve(58, 1002, 1);
        x.curve(59, 1000, 1);
        x.date(1000, 1);
        x.gap(0, 0);
        Check.is("gap 0 in year 0", x.slid(0), 400);
        Check.is("gap 0 in year 59", x.slid(59), 900);
        x.clear();
        Check.is("gap(0, 58)", x.gap(0, 58), 1);
        Check.is("gap 58 in year 0", x.slid(0), 100);
        Check.is("gap 58 in year 1", x.slid(1), 900);
        x.clear();
        Check.is("gap(0, 59)", x.gap(0, 59), 1);
        Check.is("gap 59 in year 0", x.slid(0), 900);
        Check.is("gap 59 in year 1", x.slid(1), 0);
        CurveSums eight = withOne();
        Check.is("a gap beyond all years of eight", eight.gap(0, 59), 1);
        Check.is("a gap of eight years", eight.gap(0, 8), 2);
    }

    private static void hasTheLastDate() {
        Check.says("THE ROW OF DATES has at most 8 dates");
        CurveSums x = Sample.withTwelveDates();
        x.clear();
        Check.is("gap(11, 0)", x.gap(11, 0), 1);
        Check.is("its sum", x.slid(2), x.weight(11, 2));
    }

    private static void refusesOtherDates() {
        Check.says("IndexOutOfBoundsException: there is no such .. date");
        for (int date : Check.beyond(0, 4)) {
            Check.noIndex("gap(" + date + ", 0)", Sample::busy, x -> x.gap(date, 0));
            Check.noIndex("gap(" + date + ", 59)", Sample::busy, x -> x.gap(date, 59));
        }
        for (int date : Check.beyond(0, 11)) {
            Check.noIndex("gap(" + date + ", 0) of twelve", Sample::withTwelveDates, x -> x.gap(date, 0));
        }
    }

    private static void refusesOtherGaps() {
        Check.says("IllegalArgumentException: gap is not 0 .. 59.");
        for (int gap : Check.beyond(0, 59)) {
            Check.noArgument("gap(0, " + gap + ")", Sample::busy, x -> x.gap(0, gap));
            Check.noArgument("gap(0, " + gap + ") first", Promise14GapTest::withOne, x -> x.gap(0, gap));
        }
    }

    private static void hasEight() {
        Check.says("THE ROW OF DATES has at most 8 dates");
        CurveSums x = withOne();
        for (int size = 1; size <= 8; size++) {
            Check.is("gap", x.gap(0, size == 8 ? 0 : 1), size);
        }
        Check.is("dates of the row", x.count(4), 8);
        Check.slids(x, 7 * 400 + 900, 7 * 100 + 400, 7 * 29 + 100, 7 * 11 + 29, 11, 0, 0, 0);
    }

    private static void refusesANinth() {
        Check.says("IllegalStateException: there are eight.");
        Check.noState("a ninth", Sample::withEightInRow, x -> x.gap(0, 0));
        Check.noState("a ninth with the greatest gap", Sample::withEightInRow, x -> x.gap(4, 59));
        Check.noState("a ninth of a full object", Sample::full, x -> x.gap(11, 0));
    }

    private static void hasRoomAgainAfterClear() {
        Check.says("IllegalStateException: there are eight.");
        CurveSums x = Sample.withEightInRow();
        x.clear();
        for (int size = 1; size <= 8; size++) {
            Check.is("gap", x.gap(0, 0), size);
        }
        Check.is("its sum", x.slid(2), 8 * x.weight(0, 2));
    }
}
