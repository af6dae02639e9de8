import java.util.Arrays;
import java.util.Random;

/** Long runs of calls, drawn by a fixed seed, on an object and on the model: every answer must be the same. */
public final class ModelTest {
    private static final int RUNS = 1500;
    // An object answers 512 calls; the text that the last turn may bring to the pad takes fewer than sixty.
    private static final int CALLS = 450;
    private static final String[] NAMES = {"curve", "edition", "use", "reservoir", "date", "weight", "total", "sum",
        "mix", "joinRepeats", "least", "span", "gap", "slid", "wiggle", "clear", "unit", "read", "count"};
    private static final int[] ODD = {-1, 0, 1, Integer.MIN_VALUE, Integer.MAX_VALUE, 65536, -1000, 1000, 46341};

    private final Random random;
    private final CurveSums object;
    private final Model model;
    private final int years;
    private final int middle;
    private final int datesRarely;
    private int made = 0;

    private ModelTest(int seed) {
        random = new Random(seed);
        years = 6 + random.nextInt(57);
        int[] units = {0, 1, 7, 1000, 30000, 65536, 70000};
        int unit = units[random.nextInt(units.length)];
        object = new CurveSums(years, unit);
        model = new Model(years, unit);
        middle = random.nextInt(3001);
        datesRarely = 1 + random.nextInt(30);
    }

    public static void main(String[] args) {
        for (int seed = 0; seed < RUNS; seed++) {
            new ModelTest(seed).run(seed);
        }
        Check.end();
    }

    private void run(int seed) {
        while (made < CALLS) {
            String name = NAMES[random.nextInt(NAMES.length)];
            // Twelve dates are soon told: the calls that tell one come rarely in some runs.
            boolean tells = name.equals("date") || name.equals("sum") || name.equals("mix") || name.equals("joinRepeats");
            if (tells && random.nextInt(datesRarely) != 0) {
                name = "curve";
            }
            if (name.equals("unit") && random.nextInt(4) != 0) {
                writeText(seed);
                name = "read";
            }
            int[] with = arguments(name);
            compare(seed, name, with);
        }
    }

    private void compare(int seed, String name, int... with) {
        made++;
        String got = answer(name, with);
        String call = "seed " + seed + ": " + name + Arrays.toString(with);
        Check.same(call, got, model.answer(name, with));
    }

    private int[] arguments(String name) {
        int[] with = likely(name);
        if (with.length > 0 && random.nextInt(15) == 0) {
            with[random.nextInt(with.length)] = ODD[random.nextInt(ODD.length)];
        }
        return with;
    }

    private int[] likely(String name) {
        switch (name) {
            case "curve": return new int[] {year(), age(), spread()};
            case "use": return new int[] {random.nextInt(5)};
            case "reservoir": return new int[] {random.nextInt(4) == 0 ? near(0, 1001) : near(0, 30), near(20, 20)};
            case "date": return new int[] {age(), spread()};
            case "weight": return new int[] {date(), year()};
            case "total": return new int[] {date()};
            case "sum":
            case "joinRepeats": return new int[] {date(), date()};
            case "mix": return share(date(), date());
            case "least": return share(date());
            case "span": return new int[] {random.nextInt(5), random.nextInt(8) == 0 ? 2 : random.nextInt(2)};
            case "gap": return new int[] {date(), random.nextBoolean() ? random.nextInt(5) : random.nextInt(61)};
            case "slid": return new int[] {year()};
            case "unit": return new int[] {four(), four()};
            case "count": return new int[] {random.nextInt(8)};
            default: return new int[0];
        }
    }

    private int year() {
        return random.nextInt(20) == 0 ? near(years, 2) : random.nextInt(years);
    }

    private int age() {
        return random.nextInt(10) == 0 ? random.nextInt(3003) - 1 : near(middle, 40);
    }

    private int spread() {
        return random.nextInt(4) == 0 ? random.nextInt(103) : 1 + random.nextInt(20);
    }

    private int date() {
        int dates = Integer.parseInt(model.answer("count", 3));
        return dates == 0 || random.nextInt(20) == 0 ? random.nextInt(14) - 1 : random.nextInt(dates);
    }

    private int near(int here, int distance) {
        return here - distance + random.nextInt(2 * distance + 1);
    }

    private int[] share(int... dates) {
        int below = random.nextBoolean() ? 1 + random.nextInt(6) : random.nextInt(1003);
        int[] with = Arrays.copyOf(dates, dates.length + 2);
        with[dates.length] = random.nextInt(below + 2);
        with[dates.length + 1] = below;
        return with;
    }

    private int four() {
        int packed = 0;
        for (int i = 0; i < 4; i++) {
            int sign = random.nextInt(30) == 0 ? random.nextInt(256) : random.nextInt(3) == 0 ? 0 : '0' + random.nextInt(13);
            packed |= sign << 8 * i;
        }
        return packed;
    }

    private void writeText(int seed) {
        StringBuilder text = new StringBuilder();
        int rows = 1 + random.nextInt(random.nextInt(6) == 0 ? 14 : 3);
        for (int i = 0; i < rows; i++) {
            text.append(i == 0 ? "" : ";").append(year()).append(':').append(age()).append('+').append(spread());
        }
        if (random.nextInt(3) == 0) {
            spoil(text);
        }
        for (int from = 0; from < text.length(); from += 4) {
            int packed = 0;
            for (int i = 0; i < 4 && from + i < text.length(); i++) {
                packed |= text.charAt(from + i) << 8 * i;
            }
            compare(seed, "unit", random.nextBoolean() ? new int[] {packed, 0} : new int[] {0, packed});
        }
    }

    private void spoil(StringBuilder text) {
        int place = random.nextInt(text.length());
        String signs = "0123456789:+; -,/~";
        switch (random.nextInt(4)) {
            case 0: text.setLength(place); break;
            case 1: text.deleteCharAt(place); break;
            case 2: text.setCharAt(place, signs.charAt(random.nextInt(signs.length()))); break;
            default: text.insert(place, signs.charAt(random.nextInt(signs.length()))); break;
        }
    }

    private String answer(String name, int[] with) {
        try {
            return Integer.toString(call(name, with));
        } catch (RuntimeException e) {
            return e.getClass().getSimpleName();
        }
    }

    private int call(String name, int[] with) {
        switch (name) {
            case "curve": return object.curve(with[0], with[1], with[2]) ? 1 : 0;
            case "edition": return object.edition();
            case "use": return object.use(with[0]);
            case "reservoir":
                object.reservoir(with[0], with[1]);
                return 0;
            case "date": return object.date(with[0], with[1]);
            case "weight": return object.weight(with[0], with[1]);
            case "total": return object.total(with[0]);
            case "sum": return object.sum(with[0], with[1]);
            case "mix": return object.mix(with[0], with[1], with[2], with[3]);
            case "joinRepeats": return object.joinRepeats(with[0], with[1]);
            case "least": return object.least(with[0], with[1], with[2]);
            case "span": return object.span(with[0], with[1]);
            case "gap": return object.gap(with[0], with[1]);
            case "slid": return object.slid(with[0]);
            case "wiggle": return object.wiggle();
            case "clear": return object.clear();
            case "unit": return object.unit(with[0], with[1]);
            case "read": return object.read();
            case "count": return object.count(with[0]);
            default: throw new AssertionError(name);
        }
    }
}
