/** Promise 19: read. */
public final class Promise19ReadTest {
    public static void main(String[] args) {
        tellsTheRowsOfAText();
        tellsThemToTheEditionInUse();
        tellsThemOneBehindTheOther();
        tellsOverRowsThatAreThere();
        leavesDatesAsTheyAre();
        emptiesThePad();
        hasTheLeastAndTheGreatestNumbers();
        readsOneRow();
        readsAFullPad();
        isWrongAtTheFirstSignThatNoTextHas();
        isWrongWithoutASignBetweenTwoRows();
        isWrongAtTheSignBehindAZeroAhead();
        isWrongAtTheSignThatMakesAYearTooGreat();
        isWrongAtTheSignThatMakesAnAgeTooGreat();
        isWrongAtTheSignThatMakesASpreadTooGreat();
        isWrongAtTheZeroOfASpread();
        isWrongAtItsLengthIfItEndsTooEarly();
        isWrongForAnEmptyPad();
        isWrongAtTheFirstOfSeveralWrongSigns();
        isWrongInALaterRow();
        isWrongAtEverySignThatIsNone();
        tellsNothingOfAWrongText();
        Check.end();
    }

    /** The text is read by an object with sixty years, that has no rows but the text's. */
    private static void isRead(String text, int answer) {
        CurveSums x = new CurveSums(60, 1000);
        Check.is("read of '" + text + "'", Sample.read(x, text), answer);
        Check.is("signs behind '" + text + "'", x.count(5), 0);
        if (answer < 0) {
            Check.is("rows of '" + text + "'", x.count(6), 0);
        }
    }

    private static void isWrongAt(int place, String... texts) {
        for (String text : texts) {
            isRead(text, -1 - place);
        }
    }

    private static void tellsTheRowsOfAText() {
        Check.says("as a text, its rows are told .. : how many");
        CurveSums x = new CurveSums(8, 65536);
        Check.is("four rows", Sample.read(x, "3:100+4;0:100+1;2:100+3;1:110+2"), 4);
        Check.is("rows", x.count(6), 4);
        x.date(110, 1);
        // S and D: 2, 100; 5, 0; 10, 100; 17, 100
        Check.weights(x, 0, 25, 65536, 541, 1383, 0, 0, 0, 0);
    }

    private static void tellsThemToTheEditionInUse() {
        Check.says("its rows are told to the edition in use");
        CurveSums x = Sample.fresh();
        x.edition();
        x.edition();
        x.use(1);
        Sample.read(x, "3:100+4;5:7+1");
        Check.is("rows of 1", x.count(6), 2);
        x.use(0);
        Check.is("rows of 0", x.count(6), 0);
        x.use(2);
        Check.is("rows of 2", x.count(6), 0);
    }

    private static void tellsThemOneBehindTheOther() {
        Check.says("one behind the other: how many");
        CurveSums x = Sample.fresh();
        Check.is("a year twice", Sample.read(x, "7:100+1;7:200+1"), 2);
        Check.is("rows", x.count(6), 1);
        x.date(200, 1);
        Check.is("the later one counts", x.weight(0, 7), 1000);
        Check.is("a year three times", Sample.read(x, "7:1+1;7:2+1;7:3+1"), 3);
        x.date(3, 1);
        Check.is("the last one counts", x.weight(1, 7), 1000);
    }

    private static void tellsOverRowsThatAreThere() {
        Check.says("its rows are told to the edition in use");
        CurveSums x = Sample.fresh();
        x.curve(2, 500, 50);
        x.curve(3, 500, 50);
        Sample.read(x, "2:100+1");
        Check.is("rows", x.count(6), 2);
        x.date(100, 1);
        Check.weights(x, 0, 0, 0, 1000, 0, 0, 0, 0, 0);
        x.date(500, 50);
        Check.is("the other row stays", x.weight(1, 3), 1000);
    }

    private static void leavesDatesAsTheyAre() {
        Check.says("a WEIGHT for each year that stays as it was when they were told");
        CurveSums x = Sample.withDistances(0, 1, 2, 3, 4, -1, -1, -1);
        Sample.read(x, "0:1+1;1:1000+1;7:1000+1");
        Check.weights(x, 0, 900, 400, 100, 29, 11, 0, 0, 0);
    }

    private static void emptiesThePad() {
        Check.says("The pad is read, and is empty");
        CurveSums x = Sample.fresh();
        Sample.read(x, "0:1+1");
        Check.is("signs behind a text", x.count(5), 0);
        Check.is("read again", x.read(), -1);
        Sample.read(x, "0:1+1;");
        Check.is("signs behind a text that ends too early", x.count(5), 0);
        Check.is("read again", x.read(), -1);
        Sample.read(x, "0:x");
        Check.is("signs behind a wrong text", x.count(5), 0);
        Check.is("nothing of the wrong text stays", Sample.read(x, "0:1+1"), 1);
        Check.is("nor of the text", Sample.read(x, "1:1+1"), 1);
    }

    private static void hasTheLeastAndTheGreatestNumbers() {
        Check.says("each a year, \":\", an age, \"+\", a spread, all whole numbers");
        CurveSums x = new CurveSums(60, 1000);
        Check.is("read", Sample.read(x, "0:0+1;59:3000+100;10:2999+99;58:1000+10"), 4);
        x.date(0, 1);
        Check.is("0:0+1", x.weight(0, 0), 1000);
        x.date(3000, 100);
        Check.is("59:3000+100", x.weight(1, 59), 1000);
        x.date(2999, 99);
        Check.is("10:2999+99", x.weight(2, 10), 1000);
        x.date(1000, 10);
        Check.is("58:1000+10", x.weight(3, 58), 1000);
    }

    private static void readsOneRow() {
        Check.says("A TEXT is one row of a curve or more");
        isRead("0:0+1", 1);
        isRead("59:3000+100", 1);
        isRead("0:0+1;0:0+1", 2);
    }

    private static void readsAFullPad() {
        Check.says("THE PAD is a row of at most 100 SIGNS");
        isRead(Sample.LONGEST, 10);
        // Fifteen rows of five signs, and a longer one.
        String rows = "0:1+1;".repeat(15);
        isRead(rows + "59:3000+10", 16);
        isRead(rows + "5:1+1;5:1+", -101);
        isRead(rows + "59:3000+1+", -1 - 99);
        isRead(rows + "59:3001+10", -1 - 96);
    }

    private static void isWrongAtTheFirstSignThatNoTextHas() {
        Check.says("-1 minus the place of the first sign that no text could have there behind those ahead of it");
        isWrongAt(0, "x", ":", "+1", ";", " 5:1+1", "-1:1+1", ";5:1+1", "x:1+1");
        isWrongAt(1, "5;", "5+1", "5x", "5/1+1", "5 :1+1", "5-1+1");
        isWrongAt(2, "5::", "5:+1", "5:;", "5: 1+1", "5:-1+1", "5:x", "10;1+1");
        isWrongAt(3, "5:1:", "5:1;", "5:1,1", "5:1-1", "5:1 +1", "10:+1");
        isWrongAt(4, "5:1++", "5:1+;", "5:1+:", "5:1+-1", "5:1+ 1", "5:1+x");
        isWrongAt(5, "5:1+1:", "5:1+1+", "5:1+1 ", "5:1+1,", "5:1+1x;5:1+1");
        isWrongAt(6, "5:1+1;;", "5:1+1;:", "5:1+1;+", "5:1+1; ", "5:1+1;x");
        isWrongAt(11, "5:3000+100;x", "5:3000+100; 5:1+1");
        isWrongAt(10, "5:3000+100+", "5:3000+100:", "5:3000+100 ");
    }

    private static void isWrongWithoutASignBetweenTwoRows() {
        Check.says("\";\" between two");
        isRead("5:1+1;5:1+1", 2);
        isWrongAt(6, "5:1+15:1+1");
        isWrongAt(5, "5:1+1 5:1+1", "5:1+1,5:1+1");
        isWrongAt(6, "5:1+1;;5:1+1");
        isWrongAt(0, ";5:1+1");
        isWrongAt(6, "5:1+1;");
    }

    private static void isWrongAtTheSignBehindAZeroAhead() {
        Check.says("all whole numbers without a 0 ahead (but 0)");
        isRead("0:1+1", 1);
        isRead("5:0+1", 1);
        isWrongAt(1, "00:1+1", "05:1+1", "000");
        isWrongAt(3, "5:00+1", "5:01+1", "5:0100+1");
        isWrongAt(7, "5:1+1;00:1+1", "5:1+1;05:1+1");
        isRead("10:10+10", 1);
        isRead("20:100+100", 1);
    }

    private static void isWrongAtTheSignThatMakesAYearTooGreat() {
        Check.says("a number that is beyond its bounds is wrong at the sign that makes it so");
        isWrongAt(1, "60:1+1", "61:1+1", "69", "99:1+1", "600:1+1");
        isWrongAt(2, "100:1+1", "590:1+1", "59999999999999");
        isWrongAt(7, "6:1+1;60:1+1");
        isRead("9:1+1", 1);
        isRead("59:1+1", 1);
        int[][] answers = {{8, 7, 1}, {8, 8, -1}, {8, 9, -1}, {8, 10, -2}, {9, 8, 1}, {9, 9, -1}, {10, 9, 1}, {10, 10, -2},
            {11, 10, 1}, {11, 11, -2}, {59, 58, 1}, {59, 59, -2}};
        for (int[] each : answers) {
            CurveSums x = new CurveSums(each[0], 1);
            Check.is("year " + each[1] + " of " + each[0], Sample.read(x, each[1] + ":1+1"), each[2]);
        }
    }

    private static void isWrongAtTheSignThatMakesAnAgeTooGreat() {
        Check.says("a number that is beyond its bounds is wrong at the sign that makes it so");
        isRead("5:3000+1", 1);
        isRead("5:2999+1", 1);
        isRead("5:999+1", 1);
        isWrongAt(5, "5:3001+1", "5:3009", "5:3010+1", "5:4000+1", "5:9999");
        isWrongAt(6, "5:10000+1", "5:29999", "5:30000");
        isWrongAt(13, "5:999+1;5:9999");
    }

    private static void isWrongAtTheSignThatMakesASpreadTooGreat() {
        Check.says("a number that is beyond its bounds is wrong at the sign that makes it so");
        isRead("5:1+99", 1);
        isRead("5:1+100", 1);
        isWrongAt(6, "5:1+101", "5:1+110", "5:1+200", "5:1+999");
        isWrongAt(7, "5:1+1000", "5:1+1001");
        isWrongAt(13, "5:1+99;5:1+999");
    }

    private static void isWrongAtTheZeroOfASpread() {
        Check.says("a spread of 0 at its 0");
        isWrongAt(4, "5:1+0", "5:1+00", "5:1+01", "5:1+0;5:1+1");
        isWrongAt(10, "5:1+1;5:1+0");
        isRead("5:1+10", 1);
    }

    private static void isWrongAtItsLengthIfItEndsTooEarly() {
        Check.says("its length if it ends too early");
        isWrongAt(1, "5");
        isWrongAt(2, "5:", "59");
        isWrongAt(3, "5:1", "5:0", "59:");
        isWrongAt(4, "5:1+");
        isWrongAt(6, "5:1+1;", "5:3000");
        isWrongAt(7, "5:1+1;5");
        isWrongAt(8, "5:1+1;5:", "5:1+1;59");
        isWrongAt(9, "5:1+1;5:1");
        isWrongAt(10, "5:1+1;5:1+");
        isWrongAt(11, "5:3000+100;");
    }

    private static void isWrongForAnEmptyPad() {
        Check.says("its length if it ends too early");
        isWrongAt(0, "");
        Check.changesNothing("read of an empty pad", Sample::fresh, CurveSums::read);
    }

    private static void isWrongAtTheFirstOfSeveralWrongSigns() {
        Check.says("the place of the first sign that no text could have there");
        isWrongAt(0, "xxxx", "::::", "x:1+1;60:");
        isWrongAt(2, "5:x+x", "5:+0;;");
        isWrongAt(4, "5:1+0;60:3001+101");
    }

    private static void isWrongInALaterRow() {
        Check.says("the place of the first sign that no text could have there");
        isWrongAt(17, "5:10+10;6:20+20;60:30+1");
        isWrongAt(21, "5:10+10;6:20+20;7:30+0", "5:10+10;6:20+20;7:30++1", "5:10+10;6:20+20;7:3001+1");
    }

    private static void isWrongAtEverySignThatIsNone() {
        Check.says("the place of the first sign that no text could have there");
        for (char sign = 32; sign <= 126; sign++) {
            boolean digit = sign >= '0' && sign <= '9';
            String wrong = Character.toString(sign);
            if (!digit) {
                isWrongAt(0, wrong);
                isWrongAt(2, "5:" + wrong);
                isWrongAt(4, "5:1+" + wrong);
                isWrongAt(6, "5:1+1;" + wrong);
            }
            if (!digit && sign != ':') {
                isWrongAt(1, "5" + wrong);
            }
            if (!digit && sign != '+') {
                isWrongAt(3, "5:1" + wrong);
            }
            if (!digit && sign != ';') {
                isWrongAt(5, "5:1+1" + wrong);
            }
        }
    }

    /** The busy object, with another text on its pad. */
    private static CurveSums busyWith(String text) {
        CurveSums x = Sample.busy();
        x.read();
        Sample.write(x, text);
        return x;
    }

    // The other object reads an empty pad, so that both have read, and have an empty pad behind it.
    private static void tellsNothingOfAWrongText() {
        Check.says("then nothing is told");
        String[] wrong = {"1:1000+10;2:1000+10;x", "1:1000+10;2:1000+10;", "1:1000+10;2:1000+0", "1:1000+10;8:1000+10",
            "0:1000+10;1:3001+10", "0:1000+10;5:1000", "0:1000+101", "2:1000+10+", "7"};
        for (String text : wrong) {
                CurveSums x = busyWith(text);
            CurveSums y = busyWith("");
            Check.is("read of '" + text + "' is wrong", x.read() < 0, true);
            y.read();
            Check.same("read of '" + text + "' changed the object", Reveal.all(x), Reveal.all(y));
        }
    }
}
