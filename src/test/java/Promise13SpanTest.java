/** Promise 13: span. */
public final class Promise13SpanTest {
    private static final int N = CurveSums.NONE;

    public static void main(String[] args) {
        answersTheFirstAndTheLastYear();
        hasTheSameYearTwiceInASpanOfOne();
        isOfTheLatestLeastSet();
        staysWhenOthersChange();
        hasTheFirstAndTheLastYearOfAll();
        refusesOtherSpans();
        refusesOtherEnds();
        refusesAnySpanBeforeTheFirstLeastSet();
        refusesAnySpanOfAnEmptySet();
        changesNothing();
        Check.end();
    }

    /** The least set of all weights has the spans 0-1, 3-3 and 5-7. */
    private static CurveSums withThreeSpans() {
        CurveSums x = Sample.withDistances(0, 0, N, 0, N, 1, 1, 1);
        x.least(0, 1, 1);
        return x;
    }

    private static void answersTheFirstAndTheLastYear() {
        Check.says("the first (0) or last (1) year of its k-th span, from the earliest on");
        CurveSums x = withThreeSpans();
        Check.is("span(0, 0)", x.span(0, 0), 0);
        Check.is("span(0, 1)", x.span(0, 1), 1);
        Check.is("span(2, 0)", x.span(2, 0), 5);
        Check.is("span(2, 1)", x.span(2, 1), 7);
        Check.is("span(0, 1) again", x.span(0, 1), 1);
    }

    private static void hasTheSameYearTwiceInASpanOfOne() {
        Check.says("the first (0) or last (1) year");
        CurveSums x = withThreeSpans();
        Check.is("span(1, 0)", x.span(1, 0), 3);
        Check.is("span(1, 1)", x.span(1, 1), 3);
    }

    private static void isOfTheLatestLeastSet() {
        Check.says("Of the latest least set");
        CurveSums x = withThreeSpans();
        x.date(1001, 1);
        x.least(1, 1, 3);
        Check.same("the latest counts", Reveal.spans(x), " spans 5-6");
        x.least(0, 1, 1000);
        Check.same("the latest counts", Reveal.spans(x), " spans 0-0");
    }

    private static void staysWhenOthersChange() {
        Check.says("Of the latest least set");
        CurveSums x = withThreeSpans();
        x.date(1001, 1);
        x.sum(0, 1);
        x.mix(0, 1, 1, 2);
        x.joinRepeats(0, 1);
        x.curve(2, 1000, 1);
        x.edition();
        Sample.read(x, "4:1000+1");
        x.use(0);
        x.reservoir(1, 1);
        x.gap(0, 1);
        x.clear();
        Check.same("the least set stays", Reveal.spans(x), " spans 0-1 3-3 5-7");
    }

    private static void hasTheFirstAndTheLastYearOfAll() {
        Check.says("the first (0) or last (1) year");
        CurveSums x = new CurveSums(60, 1);
        for (int year = 0; year < 60; year++) {
            x.curve(year, 5, 1);
        }
        x.date(5, 1);
        x.least(0, 1, 1);
        Check.is("span(0, 0)", x.span(0, 0), 0);
        Check.is("span(0, 1)", x.span(0, 1), 59);
    }

    private static void refusesOtherSpans() {
        Check.says("IndexOutOfBoundsException: there is no such .. span");
        for (int k : Check.beyond(0, 2)) {
            Check.noIndex("span(" + k + ", 0)", Promise13SpanTest::withThreeSpans, x -> x.span(k, 0));
            Check.noIndex("span(" + k + ", 1)", Promise13SpanTest::withThreeSpans, x -> x.span(k, 1));
        }
        // Four single years are the most spans that eight years have.
        for (int k : new int[] {4, 7, 8, 60}) {
            Check.noIndex("span(" + k + ", 0)", Sample::busy, x -> x.span(k, 0));
        }
        Check.noIndex("a span of the set before the latest", () -> {
            CurveSums x = withThreeSpans();
            x.least(0, 1, 1000);
            return x;
        }, x -> x.span(1, 0));
    }

    private static void refusesOtherEnds() {
        Check.says("IndexOutOfBoundsException: there is no such .. end");
        for (int end : Check.beyond(0, 1)) {
            Check.noIndex("span(0, " + end + ")", Promise13SpanTest::withThreeSpans, x -> x.span(0, end));
            Check.noIndex("span(2, " + end + ")", Promise13SpanTest::withThreeSpans, x -> x.span(2, end));
            Check.noIndex("span(3, " + end + ")", Promise13SpanTest::withThreeSpans, x -> x.span(3, end));
        }
    }

    private static void refusesAnySpanBeforeTheFirstLeastSet() {
        Check.says("IndexOutOfBoundsException: there is no such .. span");
        for (int end = 0; end < 2; end++) {
            int which = end;
            Check.noIndex("span(0, " + end + ")", () -> Sample.withDistances(0, 0, N, 0, N, 1, 1, 1),
                x -> x.span(0, which));
        }
    }

    private static CurveSums withAnEmptySet() {
        CurveSums x = withThreeSpans();
        x.date(0, 1);
        x.least(1, 1, 1);
        return x;
    }

    private static void refusesAnySpanOfAnEmptySet() {
        Check.says("(0 if all weights are 0)");
        Check.noIndex("span(0, 0)", Promise13SpanTest::withAnEmptySet, x -> x.span(0, 0));
        Check.noIndex("span(0, 1)", Promise13SpanTest::withAnEmptySet, x -> x.span(0, 1));
    }

    private static void changesNothing() {
        Check.changesNothing("span(1, 1)", Promise13SpanTest::withThreeSpans, x -> x.span(1, 1));
    }
}
