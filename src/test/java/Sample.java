/** Objects that tests begin with, and texts for the pad. */
final class Sample {
    /** A text of 100 signs: ten rows of the years 1, 4 and 6. */
    static final String LONGEST = "6:1005+9" + ";1:1000+10".repeat(7) + ";4:1000+100".repeat(2);

    private Sample() {
    }

    static CurveSums fresh() {
        return new CurveSums(8, 1000);
    }

    /** Three editions, five dates, a row of three dates, a least set, a text on the pad, a reservoir: nothing is full. */
    static CurveSums busy() {
        CurveSums x = new CurveSums(8, 65536);
        x.curve(0, 1000, 10);
        x.curve(2, 1020, 20);
        x.curve(3, 1030, 5);
        x.edition();
        x.curve(2, 1040, 15);
        x.curve(5, 990, 30);
        x.edition();
        x.curve(7, 1010, 12);
        x.use(1);
        x.reservoir(15, 7);
        x.date(1010, 10);
        x.date(1025, 20);
        x.sum(0, 1);
        x.mix(0, 1, 1, 3);
        x.joinRepeats(0, 1);
        x.gap(0, 1);
        x.gap(3, 2);
        x.gap(2, 0);
        x.least(2, 9, 10);
        write(x, LONGEST.substring(0, 8));
        return x;
    }

    static CurveSums withTwelveDates() {
        return fillDates(busy());
    }

    static CurveSums withFourEditions() {
        return fillEditions(busy());
    }

    static CurveSums withEightInRow() {
        return fillRow(busy());
    }

    static CurveSums withFullPad() {
        return fillPad(busy());
    }

    static CurveSums full() {
        return fillPad(fillRow(fillEditions(fillDates(busy()))));
    }

    private static CurveSums fillDates(CurveSums x) {
        for (int date = x.count(3); date < 12; date++) {
            x.date(1000 + date, 10);
        }
        return x;
    }

    private static CurveSums fillEditions(CurveSums x) {
        x.edition();
        x.use(1);
        return x;
    }

    private static CurveSums fillRow(CurveSums x) {
        for (int size = x.count(4); size < 8; size++) {
            x.gap(1, size);
        }
        return x;
    }

    private static CurveSums fillPad(CurveSums x) {
        write(x, LONGEST.substring(x.count(5)));
        return x;
    }

    /**
     * An object with the unit 900 and date 0, whose weight in a year is 900, 400, 100, 29 or 11 for 0, 1, 2, 3
     * or 4 years between its age and the row's, and 0 where NONE stands: no row.
     */
    static CurveSums withDistances(int... distances) {
        CurveSums x = new CurveSums(distances.length, 900);
        for (int year = 0; year < distances.length; year++) {
            if (distances[year] != CurveSums.NONE) {
                x.curve(year, 1000 + distances[year], 1);
            }
        }
        x.date(1000, 1);
        return x;
    }

    /** Date 4 has a weight of 1000000, 16 times that of date 0, in the years that are given, and 0 in all others. */
    static CurveSums withGreatWeights(int years, int... heavy) {
        CurveSums x = new CurveSums(years, 62500);
        for (int year : heavy) {
            x.curve(year, 5, 1);
        }
        x.date(5, 1);
        for (int date = 0; date < 4; date++) {
            x.sum(date, date);
        }
        return x;
    }

    static int[] yearsUpTo(int years) {
        int[] all = new int[years];
        for (int year = 0; year < years; year++) {
            all[year] = year;
        }
        return all;
    }

    /** Brings a text to the pad, up to eight signs a call. */
    static int write(CurveSums x, String text) {
        int signs = x.count(5);
        for (int from = 0; from < text.length(); from += 8) {
            signs = x.unit(four(text, from), four(text, from + 4));
        }
        return signs;
    }

    private static int four(String text, int from) {
        int packed = 0;
        for (int i = 0; i < 4 && from + i < text.length(); i++) {
            packed |= text.charAt(from + i) << (8 * i);
        }
        return packed;
    }

    static int read(CurveSums x, String text) {
        write(x, text);
        return x.read();
    }
}
