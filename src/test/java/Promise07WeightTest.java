/** Promise 7: weight. */
public final class Promise07WeightTest {
    private static final int N = CurveSums.NONE;

    public static void main(String[] args) {
        answersTheWeight();
        staysAsItWasWhenTheDateWasTold();
        hasTheFirstAndTheLastDateAndYear();
        refusesOtherDates();
        refusesOtherYears();
        changesNothing();
        Check.end();
    }

    private static void answersTheWeight() {
        Check.says("A date's weight in a year.");
        CurveSums x = Sample.withDistances(4, 3, 2, 1, 0, N, 0, 1);
        x.date(1001, 1);
        Check.weights(x, 0, 11, 29, 100, 400, 900, 0, 900, 400);
        Check.weights(x, 1, 29, 100, 400, 900, 400, 0, 400, 900);
        Check.weights(x, 0, 11, 29, 100, 400, 900, 0, 900, 400);
    }

    private static void staysAsItWasWhenTheDateWasTold() {
        Check.says("a WEIGHT for each year that stays as it was when they were told");
        CurveSums x = Sample.withDistances(4, 3, 2, 1, 0, N, 0, 1);
        x.sum(0, 0);
        x.mix(0, 0, 1, 1);
        x.joinRepeats(0, 0);
        x.curve(5, 1000, 1);
        x.curve(4, 1, 1);
        x.edition();
        Sample.read(x, "0:1000+1;3:1000+1");
        x.use(0);
        x.reservoir(7, 7);
        x.date(1000, 1);
        x.gap(0, 3);
        x.least(0, 1, 2);
        x.clear();
        Check.weights(x, 0, 11, 29, 100, 400, 900, 0, 900, 400);
        Check.weights(x, 1, 22, 58, 200, 800, 1800, 0, 1800, 800);
        Check.weights(x, 2, 11, 29, 100, 400, 900, 0, 900, 400);
        Check.weights(x, 3, 11, 29, 100, 400, 900, 0, 900, 400);
    }

    private static void hasTheFirstAndTheLastDateAndYear() {
        Check.says("DATES, at most 12, have a WEIGHT for each year");
        CurveSums x = new CurveSums(60, 1000);
        x.curve(0, 1000, 1);
        x.curve(59, 1001, 1);
        for (int date = 0; date < 12; date++) {
            x.date(date == 11 ? 1001 : 1000, 1);
        }
        Check.is("weight(0, 0)", x.weight(0, 0), 1000);
        Check.is("weight(0, 59)", x.weight(0, 59), 444);
        Check.is("weight(11, 0)", x.weight(11, 0), 444);
        Check.is("weight(11, 59)", x.weight(11, 59), 1000);
    }

    private static void refusesOtherDates() {
        Check.says("IndexOutOfBoundsException: there is no such .. date");
        for (int date : Check.beyond(0, 4)) {
            Check.noIndex("weight(" + date + ", 0)", Sample::busy, x -> x.weight(date, 0));
            Check.noIndex("weight(" + date + ", 7)", Sample::busy, x -> x.weight(date, 7));
        }
        for (int date : Check.beyond(0, 11)) {
            Check.noIndex("weight(" + date + ", 0) of twelve", Sample::withTwelveDates, x -> x.weight(date, 0));
        }
    }

    private static void refusesOtherYears() {
        Check.says("IndexOutOfBoundsException: there is no such year");
        for (int year : Check.beyond(0, 7)) {
            Check.noIndex("weight(0, " + year + ")", Sample::busy, x -> x.weight(0, year));
            Check.noIndex("weight(11, " + year + ")", Sample::withTwelveDates, x -> x.weight(11, year));
        }
        Check.noIndex("weight(0, 59) of eight", Sample::busy, x -> x.weight(0, 59));
        Check.noIndex("weight(-1, -1)", Sample::busy, x -> x.weight(-1, -1));
    }

    private static void changesNothing() {
        Check.changesNothing("weight(2, 3)", Sample::busy, x -> x.weight(2, 3));
    }
}
