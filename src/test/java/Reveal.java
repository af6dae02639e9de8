/** What an object tells of itself. */
final class Reveal {
    private static final int MOST_DATES = 12;

    private Reveal() {
    }

    /**
     * All that an object can tell, also by calls that change it: what is told to the editions, the reservoir, what
     * waits on the pad. It takes fewer than 300 calls of an object with eight years.
     */
    static String all(CurveSums x) {
        StringBuilder told = new StringBuilder(counts(x));
        for (int date = 0; date < x.count(3); date++) {
            told.append(weights(x, date));
        }
        told.append(slids(x)).append(" wiggle ").append(x.wiggle()).append(spans(x));
        told.append(" clear ").append(x.clear());
        int editions = x.count(1);
        for (int edition = 0; edition < editions; edition++) {
            told.append(" use ").append(x.use(edition)).append(rows(x));
        }
        told.append(" read ").append(x.read()).append(rows(x)).append(joins(x));
        for (int edition = 0; edition < editions; edition++) {
            x.use(edition);
            told.append(yearsWithRow(x));
        }
        // Only now has every object rows by which a date shows the reservoir.
        return told.append(rows(x)).append(newEditions(x)).toString();
    }

    private static String counts(CurveSums x) {
        StringBuilder told = new StringBuilder("counts");
        for (int what = 0; what <= 6; what++) {
            told.append(' ').append(x.count(what));
        }
        return told.toString();
    }

    private static String weights(CurveSums x, int date) {
        StringBuilder told = new StringBuilder(" date ").append(date).append(" total ").append(x.total(date)).append(':');
        int years = x.count(0);
        for (int year = 0; year < years; year++) {
            told.append(' ').append(x.weight(date, year));
        }
        return told.toString();
    }

    private static String slids(CurveSums x) {
        StringBuilder told = new StringBuilder(" slid");
        int years = x.count(0);
        for (int year = 0; year < years; year++) {
            told.append(' ').append(x.slid(year));
        }
        return told.toString();
    }

    static String spans(CurveSums x) {
        StringBuilder told = new StringBuilder(" spans");
        for (int k = 0; k < 60; k++) {
            try {
                told.append(" " + x.span(k, 0) + "-" + x.span(k, 1));
            } catch (IndexOutOfBoundsException e) {
                break;
            }
        }
        return told.toString();
    }

    // A new date shows the rows' ages and spreads, and the reservoir; with twelve no call can show them any more.
    private static String rows(CurveSums x) {
        String told = " rows " + x.count(6);
        return x.count(3) < MOST_DATES ? told + weights(x, x.date(1015, 12)) : told;
    }

    private static String joins(CurveSums x) {
        StringBuilder told = new StringBuilder(" joins");
        int dates = x.count(3);
        for (int date = 0; date < dates && x.count(3) < MOST_DATES - 1; date++) {
            int joined = x.joinRepeats(date, 0);
            told.append(' ').append(joined).append(joined == CurveSums.NONE ? "" : weights(x, joined));
        }
        return told.toString();
    }

    private static String yearsWithRow(CurveSums x) {
        StringBuilder told = new StringBuilder(" years");
        int years = x.count(0);
        for (int year = 0; year < years; year++) {
            told.append(x.curve(year, 1000 + year, 1) ? " " + year : "");
        }
        return told.toString();
    }

    private static String newEditions(CurveSums x) {
        StringBuilder told = new StringBuilder(" editions");
        for (int i = 0; i < 5; i++) {
            try {
                told.append(' ').append(x.edition());
            } catch (IllegalStateException e) {
                break;
            }
        }
        return told.toString();
    }
}
