import java.math.BigInteger;
import java.util.ArrayList;
import java.util.Arrays;
import java.util.Comparator;
import java.util.List;
import java.util.TreeMap;
import java.util.TreeSet;
import java.util.regex.Matcher;
import java.util.regex.Pattern;
import java.util.stream.Collectors;
import java.util.stream.IntStream;

/**
 * The document in its plainest form, with the Java library and other ways than the class has, so that the same
 * fault is not made twice: sorting for the least set, a regular expression for texts, numbers without a bound.
 */
final class Model {
    private record Row(int age, int spread) {
    }

    private record Dating(List<Integer> weights, Row measured) {
    }

    private record Placed(Dating date, int gap) {
    }

    private final int years;
    private final int unit;
    private final Pattern text;
    private final List<TreeMap<Integer, Row>> editions = new ArrayList<>();
    private final List<Dating> dates = new ArrayList<>();
    private final List<Placed> row = new ArrayList<>();
    private final List<int[]> spans = new ArrayList<>();
    private String pad = "";
    private int inUse = 0;
    private int reservoirAge = 0;
    private int reservoirSpread = 0;

    Model(int years, int unit) {
        this.years = years < 8 ? 8 : years > 60 ? 60 : years;
        this.unit = unit < 1 ? 1 : unit > 65536 ? 65536 : unit;
        String year = IntStream.range(0, this.years).mapToObj(Integer::toString).collect(Collectors.joining("|"));
        String one = "(?:" + year + "):(?:0|[1-9]\\d{0,2}|[12]\\d{3}|3000)\\+(?:[1-9]\\d?|100)";
        text = Pattern.compile(one + "(?:;" + one + ")*");
        editions.add(new TreeMap<>());
    }

    /** The answer of a call by its name, or the name of the exception that it throws. */
    String answer(String name, int... with) {
        try {
            return Integer.toString(call(name, with));
        } catch (RuntimeException e) {
            return e.getMessage();
        }
    }

    private int call(String name, int[] with) {
        switch (name) {
            case "curve": return curve(with[0], with[1], with[2]);
            case "edition": return edition();
            case "use": return use(with[0]);
            case "reservoir": return reservoir(with[0], with[1]);
            case "date": return date(with[0], with[1]);
            case "weight": return weight(with[0], with[1]);
            case "total": return total(with[0]);
            case "sum": return sum(with[0], with[1]);
            case "mix": return mix(with[0], with[1], with[2], with[3]);
            case "joinRepeats": return joinRepeats(with[0], with[1]);
            case "least": return least(with[0], with[1], with[2]);
            case "span": return span(with[0], with[1]);
            case "gap": return gap(with[0], with[1]);
            case "slid": return slid(with[0]);
            case "wiggle": return wiggle();
            case "clear": return clear();
            case "unit": return unit(with[0], with[1]);
            case "read": return read();
            case "count": return count(with[0]);
            default: throw new AssertionError(name);
        }
    }

    private static void index(int given, int bound) {
        require(given >= 0 && given < bound, "IndexOutOfBoundsException");
    }

    private static void argument(boolean holds) {
        require(holds, "IllegalArgumentException");
    }

    private static void state(boolean holds) {
        require(holds, "IllegalStateException");
    }

    private static void require(boolean holds, String name) {
        if (!holds) {
            throw new RuntimeException(name);
        }
    }

    private int curve(int year, int age, int spread) {
        index(year, years);
        argument(age >= 0 && age <= 3000 && spread >= 1 && spread <= 100);
        return editions.get(inUse).put(year, new Row(age, spread)) == null ? 0 : 1;
    }

    private int edition() {
        state(editions.size() < 4);
        editions.add(new TreeMap<>(editions.get(inUse)));
        inUse = editions.size() - 1;
        return inUse;
    }

    private int use(int edition) {
        index(edition, editions.size());
        int before = inUse;
        inUse = edition;
        return before;
    }

    private int reservoir(int age, int spread) {
        argument(age >= -1000 && age <= 1000 && spread >= 0 && spread <= 100);
        reservoirAge = age;
        reservoirSpread = spread;
        return 0;
    }

    private int date(int age, int spread) {
        argument(age >= 0 && age <= 3000 && spread >= 1 && spread <= 100);
        state(dates.size() < 12);
        List<Integer> weights = new ArrayList<>();
        for (int year = 0; year < years; year++) {
            Row there = editions.get(inUse).get(year);
            weights.add(there == null ? 0 : bell(age, spread, there));
        }
        dates.add(new Dating(weights, new Row(age, spread)));
        return dates.size() - 1;
    }

    private int bell(int age, int spread, Row there) {
        BigInteger s = square(spread).add(square(reservoirSpread)).add(square(there.spread()));
        BigInteger d = square(age - reservoirAge - there.age());
        return BigInteger.valueOf(unit).multiply(s).multiply(s).divide(s.add(d).pow(2)).intValueExact();
    }

    private static BigInteger square(int of) {
        return BigInteger.valueOf(of).pow(2);
    }

    private int weight(int date, int year) {
        index(date, dates.size());
        index(year, years);
        return dates.get(date).weights().get(year);
    }

    private int total(int date) {
        index(date, dates.size());
        return dates.get(date).weights().stream().mapToInt(weight -> weight).sum();
    }

    private int sum(int a, int b) {
        index(a, dates.size());
        index(b, dates.size());
        state(dates.size() < 12);
        int[] sums = IntStream.range(0, years).map(year -> weight(a, year) + weight(b, year)).toArray();
        return Arrays.stream(sums).anyMatch(each -> each > 1000000) ? -1 : told(sums);
    }

    private int mix(int a, int b, int above, int below) {
        index(a, dates.size());
        index(b, dates.size());
        argument(0 <= above && above <= below && below <= 1000 && below != 0);
        state(dates.size() < 12);
        return told(IntStream.range(0, years).map(year -> BigInteger.valueOf(above)
            .multiply(BigInteger.valueOf(weight(a, year)))
            .add(BigInteger.valueOf(below - above).multiply(BigInteger.valueOf(weight(b, year))))
            .divide(BigInteger.valueOf(below)).intValueExact()).toArray());
    }

    private int told(int[] weights) {
        dates.add(new Dating(Arrays.stream(weights).boxed().collect(Collectors.toList()), null));
        return dates.size() - 1;
    }

    private int joinRepeats(int a, int b) {
        index(a, dates.size());
        index(b, dates.size());
        state(dates.size() < 12);
        Row one = dates.get(a).measured();
        Row two = dates.get(b).measured();
        if (one == null || two == null) {
            return -1;
        }
        BigInteger p = square(one.spread());
        BigInteger q = square(two.spread());
        if (square(one.age() - two.age()).compareTo(p.add(q).multiply(BigInteger.valueOf(4))) > 0) {
            return -1;
        }
        BigInteger age = BigInteger.valueOf(one.age()).multiply(q).add(BigInteger.valueOf(two.age()).multiply(p));
        int spread = p.multiply(q).divide(p.add(q)).sqrt().intValueExact();
        return date(age.divide(p.add(q)).intValueExact(), spread == 0 ? 1 : spread);
    }

    private int least(int date, int above, int below) {
        index(date, dates.size());
        argument(1 <= above && above <= below && below <= 1000);
        List<Integer> order = IntStream.range(0, years).boxed().filter(year -> weight(date, year) > 0)
            .sorted(Comparator.comparing((Integer year) -> -weight(date, year)).thenComparing(year -> year))
            .collect(Collectors.toList());
        int few = 0;
        while (share(date, order.subList(0, few)) * below < (long) above * total(date)) {
            few++;
        }
        TreeSet<Integer> set = new TreeSet<>(order.subList(0, few));
        spans.clear();
        for (int year : set) {
            if (!set.contains(year - 1)) {
                spans.add(new int[] {year, year});
            }
            spans.get(spans.size() - 1)[1] = year;
        }
        return spans.size();
    }

    private long share(int date, List<Integer> some) {
        return some.stream().mapToLong(year -> weight(date, year)).sum();
    }

    private int span(int k, int end) {
        index(k, spans.size());
        index(end, 2);
        return spans.get(k)[end];
    }

    private int gap(int date, int gap) {
        index(date, dates.size());
        argument(gap >= 0 && gap <= 59);
        state(row.size() < 8);
        row.add(new Placed(dates.get(date), gap));
        return row.size();
    }

    private int slid(int year) {
        index(year, years);
        return row.stream().filter(each -> year + each.gap() < years)
            .mapToInt(each -> each.date().weights().get(year + each.gap())).sum();
    }

    private int wiggle() {
        int greatest = IntStream.range(0, years).map(this::slid).max().getAsInt();
        return row.isEmpty() ? -1 : IntStream.range(0, years).filter(year -> slid(year) == greatest).findFirst().getAsInt();
    }

    private int clear() {
        int before = row.size();
        row.clear();
        return before;
    }

    private int unit(int a, int b) {
        StringBuilder signs = new StringBuilder();
        for (int i = 0; i < 8; i++) {
            long both = (b & 0xFFFFFFFFL) << 32 | a & 0xFFFFFFFFL;
            int sign = (int) (both >>> 8 * i & 0xFF);
            argument(sign == 0 || sign >= 32 && sign <= 126);
            signs.append(sign == 0 ? "" : Character.toString(sign));
        }
        state(pad.length() + signs.length() <= 100);
        pad += signs;
        return pad.length();
    }

    private int read() {
        String told = pad;
        pad = "";
        if (!text.matcher(told).matches()) {
            int place = 0;
            while (place < told.length() && begins(told.substring(0, place + 1))) {
                place++;
            }
            return -1 - place;
        }
        String[] rows = told.split(";");
        for (String each : rows) {
            int[] numbers = Arrays.stream(each.split("[:+]")).mapToInt(Integer::parseInt).toArray();
            curve(numbers[0], numbers[1], numbers[2]);
        }
        return rows.length;
    }

    private boolean begins(String start) {
        Matcher matcher = text.matcher(start);
        return matcher.matches() || matcher.hitEnd();
    }

    private int count(int what) {
        index(what, 7);
        return new int[] {years, editions.size(), inUse, dates.size(), row.size(), pad.length(),
            editions.get(inUse).size()}[what];
    }
}
