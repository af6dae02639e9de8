/** Promise 18: unit. */
public final class Promise18UnitTest {
    private static final int FOUR_BLANKS = 0x20202020;

    public static void main(String[] args) {
        bringsTheSignsOfTheFirstThenOfTheSecond();
        bringsTheLowestBitsFirst();
        comesBehindThePad();
        answersHowManyThereAre();
        takesZeroForNone();
        takesZeroForNoneBetweenSigns();
        hasTheLeastAndTheGreatestSign();
        refusesOtherSigns();
        refusesOtherSignsBesideGoodOnes();
        refusesNumbersWithTheHighestBit();
        hasAHundred();
        hasAHundredBySeveralAtOnce();
        takesNoneOnAFullPad();
        refusesAHundredAndOne();
        refusesAllSignsIfOneIsTooMany();
        hasRoomAgainAfterRead();
        Check.end();
    }

    private static int four(String signs) {
        return signs.charAt(0) | signs.charAt(1) << 8 | signs.charAt(2) << 16 | signs.charAt(3) << 24;
    }

    private static CurveSums withSigns(int signs) {
        CurveSums x = Sample.fresh();
        Sample.write(x, " ".repeat(signs));
        return x;
    }

    /** The pad has 1:234+5. */
    private static void isRowOfYearOne(CurveSums x) {
        Check.is("read", x.read(), 1);
        x.date(234, 5);
        Check.weights(x, 0, 0, 1000, 0, 0, 0, 0, 0, 0);
        x.date(239, 5);
        // 25 and 25, 25
        Check.weights(x, 1, 0, 444, 0, 0, 0, 0, 0, 0);
    }

    private static void bringsTheSignsOfTheFirstThenOfTheSecond() {
        Check.says("of a, then of b");
        CurveSums x = Sample.fresh();
        x.unit(four("1:23"), '4' | '+' << 8 | '5' << 16);
        isRowOfYearOne(x);
        CurveSums y = Sample.fresh();
        y.unit('1', four(":234"));
        y.unit('+', '5');
        isRowOfYearOne(y);
    }

    private static void bringsTheLowestBitsFirst() {
        Check.says("the lowest eight bits first");
        CurveSums x = Sample.fresh();
        x.unit(four("1:23"), four("4+56"));
        Check.is("1:234+56", x.read(), 1);
        x.unit(four("32:1"), four("65+4"));
        Check.is("what only from the highest bits on is a text", x.read(), -2);
        x.unit(four("x123"), 0);
        Check.is("the lowest is the first", x.read(), -1);
        x.unit(four("1x23"), 0);
        Check.is("the next is the second", x.read(), -2);
        x.unit(four("1:x3"), 0);
        Check.is("the next is the third", x.read(), -3);
        x.unit(four("1:2x"), 0);
        Check.is("the highest is the fourth", x.read(), -4);
    }

    private static void comesBehindThePad() {
        Check.says("Signs come behind the pad");
        CurveSums x = Sample.fresh();
        for (char sign : "1:234+5".toCharArray()) {
            x.unit(sign, 0);
        }
        isRowOfYearOne(x);
        CurveSums y = Sample.fresh();
        for (char sign : "1:234+5".toCharArray()) {
            y.unit(0, sign);
        }
        isRowOfYearOne(y);
    }

    private static void answersHowManyThereAre() {
        Check.says("how many there are");
        CurveSums x = Sample.fresh();
        Check.is("one", x.unit(32, 0), 1);
        Check.is("one more of b", x.unit(0, 32), 2);
        Check.is("two more", x.unit(32, 32), 4);
        Check.is("eight more", x.unit(FOUR_BLANKS, FOUR_BLANKS), 12);
        Check.is("signs", x.count(5), 12);
    }

    private static void takesZeroForNone() {
        Check.says("0 is none");
        CurveSums x = Sample.fresh();
        Check.is("unit(0, 0)", x.unit(0, 0), 0);
        Check.is("signs", x.count(5), 0);
        Check.is("read", x.read(), -1);
        Check.changesNothing("unit(0, 0)", Sample::busy, y -> y.unit(0, 0));
    }

    private static void takesZeroForNoneBetweenSigns() {
        Check.says("0 is none");
        CurveSums x = Sample.fresh();
        Check.is("lowest and third", x.unit('1' | ':' << 16, 0), 2);
        Check.is("second and highest of b", x.unit(0, '2' << 8 | '3' << 24), 4);
        Check.is("highest of a, lowest of b", x.unit('4' << 24, '+'), 6);
        Check.is("highest of b", x.unit(0, '5' << 24), 7);
        isRowOfYearOne(x);
    }

    private static void hasTheLeastAndTheGreatestSign() {
        Check.says("SIGNS 32 .. 126");
        for (int shift = 0; shift < 32; shift += 8) {
            for (int sign : new int[] {32, 33, 125, 126}) {
                Check.is(sign + " of a", Sample.fresh().unit(sign << shift, 0), 1);
                Check.is(sign + " of b", Sample.fresh().unit(0, sign << shift), 1);
            }
        }
        Check.is("all of them", Sample.fresh().unit(FOUR_BLANKS, 0x7e7e7e7e), 8);
    }

    private static void refusesOtherSigns() {
        Check.says("IllegalArgumentException: one that is not 32 .. 126.");
        for (int shift = 0; shift < 32; shift += 8) {
            for (int sign : new int[] {1, 31, 127, 128, 160, 255}) {
                int wrong = sign << shift;
                Check.noArgument("unit(" + wrong + ", 0)", Sample::busy, x -> x.unit(wrong, 0));
                Check.noArgument("unit(0, " + wrong + ")", Sample::busy, x -> x.unit(0, wrong));
            }
        }
    }

    private static void refusesOtherSignsBesideGoodOnes() {
        Check.says("IllegalArgumentException: one that is not 32 .. 126.");
        for (int shift = 0; shift < 32; shift += 8) {
            // One of the four blanks gives way to 31, or to 127.
            int low = FOUR_BLANKS - (1 << shift);
            int high = FOUR_BLANKS + (95 << shift);
            for (int wrong : new int[] {low, high}) {
                Check.noArgument("unit(" + wrong + ", ..)", Sample::busy, x -> x.unit(wrong, FOUR_BLANKS));
                Check.noArgument("unit(.., " + wrong + ")", Sample::busy, x -> x.unit(FOUR_BLANKS, wrong));
            }
        }
    }

    private static void refusesNumbersWithTheHighestBit() {
        Check.says("IllegalArgumentException: one that is not 32 .. 126.");
        for (int wrong : new int[] {Integer.MIN_VALUE, -1, Integer.MAX_VALUE, 0x80202020, 0xa0202020}) {
            Check.noArgument("unit(" + wrong + ", 0)", Sample::busy, x -> x.unit(wrong, 0));
            Check.noArgument("unit(0, " + wrong + ")", Sample::busy, x -> x.unit(0, wrong));
        }
    }

    private static void hasAHundred() {
        Check.says("THE PAD is a row of at most 100 SIGNS");
        CurveSums x = withSigns(98);
        Check.is("the ninety-ninth", x.unit(32, 0), 99);
        Check.is("the hundredth", x.unit(32 << 24, 0), 100);
        Check.is("signs", x.count(5), 100);
        for (int shift = 0; shift < 32; shift += 8) {
            for (int sign : new int[] {32, 33, 125, 126}) {
                Check.is("the hundredth of a", withSigns(99).unit(sign << shift, 0), 100);
                Check.is("the hundredth of b", withSigns(99).unit(0, sign << shift), 100);
            }
        }
    }

    private static void hasAHundredBySeveralAtOnce() {
        Check.says("THE PAD is a row of at most 100 SIGNS");
        Check.is("eight behind 92", withSigns(92).unit(FOUR_BLANKS, FOUR_BLANKS), 100);
        Check.is("four behind 96", withSigns(96).unit(FOUR_BLANKS, 0), 100);
        Check.is("four of b behind 96", withSigns(96).unit(0, FOUR_BLANKS), 100);
        Check.is("two behind 98", withSigns(98).unit(32, 32), 100);
        CurveSums x = Sample.fresh();
        Sample.write(x, Sample.LONGEST);
        Check.is("a text of 100 signs", x.read(), 10);
    }

    private static void takesNoneOnAFullPad() {
        Check.says("0 is none");
        Check.is("unit(0, 0)", Sample.withFullPad().unit(0, 0), 100);
        Check.changesNothing("unit(0, 0)", Sample::withFullPad, x -> x.unit(0, 0));
    }

    private static void refusesAHundredAndOne() {
        Check.says("IllegalStateException: there would be more than 100.");
        for (int shift = 0; shift < 32; shift += 8) {
            int one = 59 << shift;
            Check.noState("unit(" + one + ", 0)", Sample::withFullPad, x -> x.unit(one, 0));
            Check.noState("unit(0, " + one + ")", Sample::withFullPad, x -> x.unit(0, one));
        }
        Check.noState("eight more", Sample::withFullPad, x -> x.unit(FOUR_BLANKS, FOUR_BLANKS));
        Check.noState("one more of a full object", Sample::full, x -> x.unit(32, 0));
    }

    private static void refusesAllSignsIfOneIsTooMany() {
        Check.says("IllegalStateException: there would be more than 100.");
        Check.noState("eight behind 93", () -> withSigns(93), x -> x.unit(FOUR_BLANKS, FOUR_BLANKS));
        Check.noState("five behind 96", () -> withSigns(96), x -> x.unit(FOUR_BLANKS, 32));
        Check.noState("five behind 96, four of b", () -> withSigns(96), x -> x.unit(32, FOUR_BLANKS));
        Check.noState("two behind 99", () -> withSigns(99), x -> x.unit(32 | 32 << 8, 0));
        Check.noState("two of b behind 99", () -> withSigns(99), x -> x.unit(0, 32 << 16 | 32 << 24));
        Check.noState("one each behind 99", () -> withSigns(99), x -> x.unit(32, 32));
    }

    private static void hasRoomAgainAfterRead() {
        Check.says("The pad is read, and is empty");
        CurveSums x = Sample.withFullPad();
        x.read();
        Check.is("unit", x.unit(FOUR_BLANKS, FOUR_BLANKS), 8);
    }
}
