/** Promise 11: joinRepeats. */
public final class Promise11JoinRepeatsTest {
    private static final int N = CurveSums.NONE;

    public static void main(String[] args) {
        CurveSums x = new CurveSums(8, 1000);
        x.curve(0, 322, 10);
        x.date(320, 10);
        x.date(330, 20);
        Check.is("joinRepeats", x.joinRepeats(0, 1), 2);
        // p 100, q 400: the age (128000 + 33000) / 500 = 322, the spread the root of 80: 8
        Check.is("its weight", x.weight(2, 0), 1000);
        x.edition();
        x.curve(0, 332, 6);
        Check.is("by the edition in use", x.joinRepeats(1, 0), 3);
        Check.is("8 * 8 and 6 * 6, 100", x.weight(3, 0), 250);
        x.reservoir(-10, 0);
        Check.is("with the reservoir of now", x.joinRepeats(0, 1), 4);
        Check.is("322 + 10", x.weight(4, 0), 1000);
        x.reservoir(0, 10);
        Check.is("with the reservoir of now", x.joinRepeats(0, 1), 5);
        Check.is("100 more, 100: 200 and 300", x.weight(5, 0), 444);
        Check.is("a date with a reservoir", x.date(320, 10), 6);
        Check.is("joins by its own age and spread", x.joinRepeats(6, 1), 7);
        Check.is("200 and 300", x.weight(7, 0), 444);
        x.reservoir(0, 0);
        // the joined one has 322 and 8: p 64, q 64, the age 322, the spread the root of 32: 5
        Check.is("a joined one is measured", x.joinRepeats(2, 3), 8);
        Check.is("25 and 36, 100: 1000 * 3721 / 25921", x.weight(8, 0), 143);

        String before = Check.stateOf(x);
        for (int date : new int[] {-1, 9, 12, Integer.MIN_VALUE, Integer.MAX_VALUE}) {
            Check.noIndex("joinRepeats(" + date + ", 0)", () -> x.joinRepeats(date, 0));
            Check.noIndex("joinRepeats(0, " + date + ")", () -> x.joinRepeats(0, date));
        }
        Check.same("wrong calls change nothing", Check.stateOf(x), before);
        x.sum(0, 1);
        Check.is("one is not measured", x.joinRepeats(0, 9), N);
        Check.is("one is not measured", x.joinRepeats(9, 0), N);
        Check.is("both are not measured", x.joinRepeats(9, 9), N);
        x.date(1, 1);
        x.date(1, 1);
        before = Check.stateOf(x);
        Check.noState("a thirteenth", () -> x.joinRepeats(0, 1));
        Check.noState("a thirteenth of one that is not measured", () -> x.joinRepeats(0, 9));
        Check.noState("a thirteenth of two that are no repeats", () -> x.joinRepeats(0, 10));
        Check.noIndex("a thirteenth of no date", () -> x.joinRepeats(0, 12));
        Check.same("wrong calls change nothing", Check.stateOf(x), before);

        // 4 (9 + 16) is the square of 10
        CurveSums y = new CurveSums(8, 1000);
        y.date(500, 3);
        y.date(510, 4);
        y.date(511, 4);
        y.date(490, 4);
        y.date(489, 4);
        Check.is("10 apart", y.joinRepeats(0, 1), 5);
        Check.is("11 apart", y.joinRepeats(0, 2), N);
        Check.is("11 apart, the other way", y.joinRepeats(2, 0), N);
        Check.is("-10 apart", y.joinRepeats(0, 3), 6);
        Check.is("-11 apart", y.joinRepeats(0, 4), N);
        Check.is("dates", y.count(3), 7);

        CurveSums z = new CurveSums(8, 65536);
        z.curve(0, 7, 1);
        z.date(7, 1);
        Check.is("with itself", z.joinRepeats(0, 0), 1);
        // the root of 1 / 2 is 0, but the spread 1 at least: 2, 0
        Check.is("its weight", z.weight(1, 0), 65536);
        z.curve(0, 8, 1);
        Check.is("again", z.joinRepeats(1, 1), 2);
        Check.is("2, 1: 65536 * 4 / 9", z.weight(2, 0), 29127);
        z.curve(0, 3000, 100);
        z.date(3000, 100);
        Check.is("the greatest", z.joinRepeats(3, 3), 4);
        Check.is("its weight", z.weight(4, 0), 65536);
        z.curve(0, 2900, 100);
        Check.is("once more", z.joinRepeats(3, 3), 5);
        // the spread is the root of 5000, 70: 14900, 10000
        Check.is("4900 and 10000, 10000", z.weight(5, 0), 23466);
        z.date(10, 2);
        z.date(11, 2);
        Check.is("half a year", z.joinRepeats(6, 7), 8);
        z.curve(0, 10, 1);
        z.joinRepeats(6, 7);
        Check.is("is rounded down", z.weight(9, 0), 65536);

        CurveSums near = new CurveSums(8, 65536);
        near.curve(0, 7, 1);
        near.date(0, 10);
        near.sum(0, 0);
        Check.is("of two equal ones, one not measured", near.joinRepeats(0, 1), N);
        Check.is("of two equal ones, one not measured", near.joinRepeats(1, 0), N);
        near.date(10, 3);
        Check.is("9 / 2 is 4, its root 2", near.joinRepeats(2, 2), 3);
        Check.is("4 and 1, 9: 65536 * 25 / 196", near.weight(3, 0), 8359);
        Check.end();
    }
}
