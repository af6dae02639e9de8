/** Weights of dates by a curve, as ../shared/DOC.md promises them. */
public final class CurveSums {
    public static final int NONE = -1;

    private static final int LEAST_YEARS = 8;
    private static final int MOST_YEARS = 60;
    private static final int LEAST_UNIT = 1;
    private static final int MOST_UNIT = 65536;
    private static final int MOST_EDITIONS = 4;
    private static final int MOST_AGE = 3000;
    private static final int MOST_SPREAD = 100;
    private static final int MOST_RESERVOIR_AGE = 1000;
    private static final int MOST_DATES = 12;
    private static final int MOST_WEIGHT = 1000000;
    private static final int MOST_BELOW = 1000;
    private static final int MOST_IN_ROW = 8;
    private static final int MOST_GAP = 59;
    private static final int MOST_SIGNS = 100;

    private final int yearCount;
    private final int weightUnit;
    private final Edition[] editions;
    private final Dating[] dates;
    private final LeastSet leastSet;
    private final DateRow dateRow;
    private final Pad pad;
    private final TextReader reader;
    private int editionCount;
    private int editionInUse;
    private int dateCount;
    private int reservoirAge;
    private int reservoirSpread;

    // Every row that a call may need is made here, so that no call makes one.
    public CurveSums(int years, int unit) {
        yearCount = Math.max(LEAST_YEARS, Math.min(MOST_YEARS, years));
        weightUnit = Math.max(LEAST_UNIT, Math.min(MOST_UNIT, unit));
        editions = new Edition[MOST_EDITIONS];
        for (int i = 0; i < MOST_EDITIONS; i++) {
            editions[i] = new Edition(yearCount);
        }
        dates = new Dating[MOST_DATES];
        for (int i = 0; i < MOST_DATES; i++) {
            dates[i] = new Dating(yearCount);
        }
        leastSet = new LeastSet(yearCount);
        dateRow = new DateRow();
        pad = new Pad();
        reader = new TextReader(yearCount);
        editionCount = 1;
    }

    public boolean curve(int year, int age, int spread) throws IndexOutOfBoundsException, IllegalArgumentException {
        needYear(year);
        needAgeAndSpread(age, spread);
        return editions[editionInUse].tellRow(year, age, spread);
    }

    public int edition() throws IllegalStateException {
        if (editionCount >= MOST_EDITIONS) {
            throw new IllegalStateException("there are four editions");
        }
        editions[editionCount].copyRowsOf(editions[editionInUse]);
        editionInUse = editionCount;
        editionCount++;
        return editionInUse;
    }

    public int use(int edition) throws IndexOutOfBoundsException {
        if (edition < 0 || edition >= editionCount) {
            throw new IndexOutOfBoundsException("no such edition");
        }
        int before = editionInUse;
        editionInUse = edition;
        return before;
    }

    public void reservoir(int age, int spread) throws IllegalArgumentException {
        if (age < -MOST_RESERVOIR_AGE || age > MOST_RESERVOIR_AGE) {
            throw new IllegalArgumentException("a reservoir's age is -1000 .. 1000");
        }
        if (spread < 0 || spread > MOST_SPREAD) {
            throw new IllegalArgumentException("a reservoir's spread is 0 .. 100");
        }
        reservoirAge = age;
        reservoirSpread = spread;
    }

    public int date(int age, int spread) throws IllegalArgumentException, IllegalStateException {
        needAgeAndSpread(age, spread);
        needRoomForDate();
        return tellMeasured(age, spread);
    }

    public int weight(int date, int year) throws IndexOutOfBoundsException {
        needDate(date);
        needYear(year);
        return dates[date].weights[year];
    }

    public int total(int date) throws IndexOutOfBoundsException {
        needDate(date);
        return dates[date].allWeights();
    }

    public int sum(int a, int b) throws IndexOutOfBoundsException, IllegalStateException {
        needDate(a);
        needDate(b);
        needRoomForDate();
        if (dates[a].greatestSumWith(dates[b]) > MOST_WEIGHT) {
            return NONE;
        }
        dates[dateCount].becomeSum(dates[a], dates[b]);
        return countTold();
    }

    public int mix(int a, int b, int above, int below)
            throws IndexOutOfBoundsException, IllegalArgumentException, IllegalStateException {
        needDate(a);
        needDate(b);
        if (below < 1) {
            throw new IllegalArgumentException("below is 1 at least");
        }
        needShare(0, above, below);
        needRoomForDate();
        dates[dateCount].becomeMixture(dates[a], dates[b], above, below);
        return countTold();
    }

    public int joinRepeats(int a, int b) throws IndexOutOfBoundsException, IllegalStateException {
        needDate(a);
        needDate(b);
        needRoomForDate();
        Dating first = dates[a];
        Dating second = dates[b];
        if (!first.isMeasured() || !second.isMeasured()) {
            return NONE;
        }
        int p = first.spread * first.spread;
        int q = second.spread * second.spread;
        int apart = first.age - second.age;
        if (apart * apart > 4 * (p + q)) {
            return NONE;
        }
        int age = (first.age * q + second.age * p) / (p + q);
        return tellMeasured(age, rootAtLeastOne(p * q / (p + q)));
    }

    public int least(int date, int above, int below) throws IndexOutOfBoundsException, IllegalArgumentException {
        needDate(date);
        needShare(1, above, below);
        leastSet.choose(dates[date], above, below);
        return leastSet.spanCount;
    }

    public int span(int k, int end) throws IndexOutOfBoundsException {
        if (k < 0 || k >= leastSet.spanCount) {
            throw new IndexOutOfBoundsException("no such span");
        }
        if (end < 0 || end > 1) {
            throw new IndexOutOfBoundsException("no such end");
        }
        return end == 0 ? leastSet.firsts[k] : leastSet.lasts[k];
    }

    public int gap(int date, int years) throws IndexOutOfBoundsException, IllegalArgumentException, IllegalStateException {
        needDate(date);
        if (years < 0 || years > MOST_GAP) {
            throw new IllegalArgumentException("a gap is 0 .. 59");
        }
        if (dateRow.size >= MOST_IN_ROW) {
            throw new IllegalStateException("the row has eight dates");
        }
        dateRow.append(date, years);
        return dateRow.size;
    }

    public int slid(int year) throws IndexOutOfBoundsException {
        needYear(year);
        return dateRow.sumAt(year, dates);
    }

    public int wiggle() {
        if (dateRow.size == 0) {
            return NONE;
        }
        int best = 0;
        int greatest = dateRow.sumAt(0, dates);
        for (int year = 1; year < yearCount; year++) {
            int here = dateRow.sumAt(year, dates);
            if (here > greatest) {
                best = year;
                greatest = here;
            }
        }
        return best;
    }

    public int clear() {
        int before = dateRow.size;
        dateRow.size = 0;
        return before;
    }

    public int unit(int a, int b) throws IllegalArgumentException, IllegalStateException {
        if (!Pad.holdsSignsAlone(a) || !Pad.holdsSignsAlone(b)) {
            throw new IllegalArgumentException("a sign is 32 .. 126");
        }
        if (pad.size + Pad.signsIn(a) + Pad.signsIn(b) > MOST_SIGNS) {
            throw new IllegalStateException("the pad has at most 100 signs");
        }
        pad.append(a);
        pad.append(b);
        return pad.size;
    }

    public int read() {
        int rows = reader.scan(pad);
        pad.size = 0;
        // A text with a fault has a negative answer here, so that none of its rows is told.
        for (int row = 0; row < rows; row++) {
            editions[editionInUse].tellRow(reader.yearOf(row), reader.ageOf(row), reader.spreadOf(row));
        }
        return rows;
    }

    public int count(int what) throws IndexOutOfBoundsException {
        switch (what) {
            case 0:
                return yearCount;
            case 1:
                return editionCount;
            case 2:
                return editionInUse;
            case 3:
                return dateCount;
            case 4:
                return dateRow.size;
            case 5:
                return pad.size;
            case 6:
                return editions[editionInUse].rowCount;
            default:
                throw new IndexOutOfBoundsException("there is no such count");
        }
    }

    private void needYear(int year) {
        if (year < 0 || year >= yearCount) {
            throw new IndexOutOfBoundsException("no such year");
        }
    }

    private void needDate(int date) {
        if (date < 0 || date >= dateCount) {
            throw new IndexOutOfBoundsException("no such date");
        }
    }

    private void needRoomForDate() {
        if (dateCount >= MOST_DATES) {
            throw new IllegalStateException("there are twelve dates");
        }
    }

    private static void needAgeAndSpread(int age, int spread) {
        if (age < 0 || age > MOST_AGE) {
            throw new IllegalArgumentException("an age is 0 .. 3000");
        }
        if (spread < 1 || spread > MOST_SPREAD) {
            throw new IllegalArgumentException("a spread is 1 .. 100");
        }
    }

    private static void needShare(int lowest, int above, int below) {
        if (above < lowest || above > below || below > MOST_BELOW) {
            throw new IllegalArgumentException("no such share");
        }
    }

    // Callers have made sure by needRoomForDate that dates[dateCount] is there.
    private int tellMeasured(int age, int spread) {
        Dating told = dates[dateCount];
        told.age = age;
        told.spread = spread;
        int variance = spread * spread + reservoirSpread * reservoirSpread;
        Edition edition = editions[editionInUse];
        for (int year = 0; year < yearCount; year++) {
            told.weights[year] = weightBy(edition, year, age - reservoirAge, variance);
        }
        return countTold();
    }

    private int countTold() {
        dateCount++;
        return dateCount - 1;
    }

    private int weightBy(Edition edition, int year, int age, int variance) {
        if (!edition.hasRow(year)) {
            return 0;
        }
        int rowSpread = edition.spreads[year];
        int apart = age - edition.ages[year];
        // In long, as the unit times the square of s, and the square of s + d, are beyond int.
        long s = variance + rowSpread * rowSpread;
        long d = apart * apart;
        return (int) (weightUnit * s * s / ((s + d) * (s + d)));
    }

    private static int rootAtLeastOne(int square) {
        // No joined spread is above the greatest spread, so the search may begin there.
        for (int root = MOST_SPREAD; root > 1; root--) {
            if (root * root <= square) {
                return root;
            }
        }
        return 1;
    }

    /** The rows of one edition; a year whose spread is 0 has none. */
    private static final class Edition {
        final int[] ages;
        final int[] spreads;
        int rowCount;

        Edition(int years) {
            ages = new int[years];
            spreads = new int[years];
        }

        boolean hasRow(int year) {
            return spreads[year] > 0;
        }

        boolean tellRow(int year, int age, int spread) {
            boolean before = hasRow(year);
            ages[year] = age;
            spreads[year] = spread;
            if (!before) {
                rowCount++;
            }
            return before;
        }

        void copyRowsOf(Edition other) {
            System.arraycopy(other.ages, 0, ages, 0, ages.length);
            System.arraycopy(other.spreads, 0, spreads, 0, spreads.length);
            rowCount = other.rowCount;
        }
    }

    /** One date; the spread is 0 if it is not measured. */
    private static final class Dating {
        final int[] weights;
        int age;
        int spread;

        Dating(int years) {
            weights = new int[years];
        }

        boolean isMeasured() {
            return spread > 0;
        }

        int allWeights() {
            int all = 0;
            for (int weight : weights) {
                all += weight;
            }
            return all;
        }

        int greatestSumWith(Dating other) {
            int greatest = 0;
            for (int year = 0; year < weights.length; year++) {
                greatest = Math.max(greatest, weights[year] + other.weights[year]);
            }
            return greatest;
        }

        void becomeSum(Dating a, Dating b) {
            for (int year = 0; year < weights.length; year++) {
                weights[year] = a.weights[year] + b.weights[year];
            }
        }

        // The caller has made sure that below is 1 at least.
        void becomeMixture(Dating a, Dating b, int above, int below) {
            for (int year = 0; year < weights.length; year++) {
                long mixed = (long) above * a.weights[year] + (long) (below - above) * b.weights[year];
                weights[year] = (int) (mixed / below);
            }
        }
    }

    /** The latest least set, and its spans. */
    private static final class LeastSet {
        final boolean[] chosen;
        final int[] firsts;
        final int[] lasts;
        int spanCount;

        LeastSet(int years) {
            chosen = new boolean[years];
            firsts = new int[years];
            lasts = new int[years];
        }

        void choose(Dating date, int above, int below) {
            for (int year = 0; year < chosen.length; year++) {
                chosen[year] = false;
            }
            // Both sides of the share are held times below, so that nothing is rounded.
            long due = (long) above * date.allWeights();
            long held = 0;
            for (int picked = 0; picked < chosen.length && held < due; picked++) {
                int year = heaviestLeft(date);
                if (year == NONE) {
                    break;
                }
                chosen[year] = true;
                held += (long) below * date.weights[year];
            }
            findSpans();
        }

        private int heaviestLeft(Dating date) {
            int heaviest = NONE;
            int greatest = 0;
            for (int year = 0; year < chosen.length; year++) {
                if (!chosen[year] && date.weights[year] > greatest) {
                    heaviest = year;
                    greatest = date.weights[year];
                }
            }
            return heaviest;
        }

        private void findSpans() {
            spanCount = 0;
            for (int year = 0; year < chosen.length; year++) {
                if (holdsYear(year) && !holdsYear(year - 1)) {
                    firsts[spanCount] = year;
                }
                if (holdsYear(year) && !holdsYear(year + 1)) {
                    lasts[spanCount] = year;
                    spanCount++;
                }
            }
        }

        private boolean holdsYear(int year) {
            return year >= 0 && year < chosen.length && chosen[year];
        }
    }

    /** The row of dates, by their numbers, with their gaps. */
    private static final class DateRow {
        final int[] numbers;
        final int[] gaps;
        int size;

        DateRow() {
            numbers = new int[MOST_IN_ROW];
            gaps = new int[MOST_IN_ROW];
        }

        void append(int date, int years) {
            numbers[size] = date;
            gaps[size] = years;
            size++;
        }

        int sumAt(int year, Dating[] dates) {
            int all = 0;
            for (int i = 0; i < size; i++) {
                int[] weights = dates[numbers[i]].weights;
                int later = year + gaps[i];
                if (later < weights.length) {
                    all += weights[later];
                }
            }
            return all;
        }
    }

    /** The signs that wait to be read. */
    private static final class Pad {
        private static final int LEAST_SIGN = 32;
        private static final int MOST_SIGN = 126;

        final int[] signs;
        int size;

        Pad() {
            signs = new int[MOST_SIGNS];
        }

        static boolean holdsSignsAlone(int four) {
            for (int shift = 0; shift < 32; shift += 8) {
                int sign = signAt(four, shift);
                if (sign != 0 && (sign < LEAST_SIGN || sign > MOST_SIGN)) {
                    return false;
                }
            }
            return true;
        }

        static int signsIn(int four) {
            int found = 0;
            for (int shift = 0; shift < 32; shift += 8) {
                if (signAt(four, shift) != 0) {
                    found++;
                }
            }
            return found;
        }

        void append(int four) {
            for (int shift = 0; shift < 32; shift += 8) {
                int sign = signAt(four, shift);
                if (sign != 0 && size < signs.length) {
                    signs[size] = sign;
                    size++;
                }
            }
        }

        private static int signAt(int four, int shift) {
            return (four >>> shift) & 255;
        }
    }

    /**
     * Reads a text sign by sign. Its numbers come in turns of three: a year, an age, a spread. All that
     * begins a number within its bounds is itself one, so a number may be judged at each of its digits.
     */
    private static final class TextReader {
        private static final int TURN = 3;
        private static final int AGE = 1;
        private static final int SPREAD = 2;

        private final int years;
        // A number has a sign of its own at least: there are never more of them than signs.
        private final int[] numbers;
        private int current;
        private boolean begun;

        TextReader(int years) {
            this.years = years;
            numbers = new int[MOST_SIGNS];
        }

        int scan(Pad pad) {
            current = 0;
            begun = false;
            for (int place = 0; place < pad.size; place++) {
                if (!takes(pad.signs[place])) {
                    return -1 - place;
                }
            }
            boolean complete = begun && current % TURN == SPREAD;
            return complete ? (current + 1) / TURN : -1 - pad.size;
        }

        int yearOf(int row) {
            return numbers[TURN * row];
        }

        int ageOf(int row) {
            return numbers[TURN * row + AGE];
        }

        int spreadOf(int row) {
            return numbers[TURN * row + SPREAD];
        }

        private boolean takes(int sign) {
            if (sign >= '0' && sign <= '9') {
                return takesDigit(sign - '0');
            }
            if (!begun || sign != signBehind(current % TURN)) {
                return false;
            }
            current++;
            begun = false;
            return true;
        }

        private boolean takesDigit(int digit) {
            if (current >= numbers.length || begun && numbers[current] == 0) {
                return false;
            }
            int number = begun ? 10 * numbers[current] + digit : digit;
            if (!isWithinBounds(number, current % TURN)) {
                return false;
            }
            numbers[current] = number;
            begun = true;
            return true;
        }

        private boolean isWithinBounds(int number, int kind) {
            switch (kind) {
                case AGE:
                    return number <= MOST_AGE;
                case SPREAD:
                    return number >= 1 && number <= MOST_SPREAD;
                default:
                    return number < years;
            }
        }

        private static int signBehind(int kind) {
            switch (kind) {
                case AGE:
                    return '+';
                case SPREAD:
                    return ';';
                default:
                    return ':';
            }
        }
    }
}
