/** Promise 19: read. */
public final class Promise19ReadTest {
    public static void main(String[] args) {
        CurveSums x = new CurveSums(60, 1000);
        Check.is("an empty pad", x.read(), -1);
        Check.is("a text", Check.read(x, "0:0+1;59:3000+100;12:340+25"), 3);
        Check.is("the pad is empty", x.count(5), 0);
        Check.is("rows", x.count(6), 3);
        x.date(340, 25);
        Check.is("the row of year 12", x.weight(0, 12), 1000);
        x.date(3000, 100);
        Check.is("the row of year 59", x.weight(1, 59), 1000);
        x.date(0, 1);
        Check.is("the row of year 0", x.weight(2, 0), 1000);
        Check.is("a year twice: the later counts", Check.read(x, "7:100+1;7:200+1"), 2);
        Check.is("rows", x.count(6), 4);
        x.date(200, 1);
        Check.is("the later one", x.weight(3, 7), 1000);
        x.edition();
        Check.is("to the edition in use", Check.read(x, "8:1+1"), 1);
        Check.is("rows", x.count(6), 5);
        x.use(0);
        Check.is("rows of edition 0", x.count(6), 4);

        String before = Check.stateOf(x);
        String[] wrong = {
            "x", "", "5", ":", "+1", "5:", "5:1", "5:1+", "5:1+1;", "5;", "5+", "5::", "5:+", "5:1:", "5:1;", "5:1++",
            "5:1+;", "5:1+1:", "5:1+1+", "5:1+1;;", "5:1+1;x", "-1:1+1", " 5:1+1", "5:1+1 ", "5: 1+1", "5:-1+1", "5:1+-1",
            "00:1+1", "05:1+1", "60:1+1", "61:1+1", "6:1+1;60:", "600:1+1", "100:1+1", "5:00+1", "5:01+1", "5:3001+1", "5:4000+1",
            "5:10000+1", "5:999+1;5:9999", "5:1+0", "5:1+01", "5:1+00", "5:1+101", "5:1+110", "5:1+1000", "5:1+200", "5:1+1;5",
            "5:1+99;5:1+999", "5/1+1", "5:1,1", "5:1+1,", "a:1+1", "5:a+1", "5:1+a", "99", "5:3000+100;x"};
        int[] places = {
            0, 0, 1, 0, 0, 2, 3, 4, 6, 1, 1, 2, 2, 3, 3, 4,
            4, 5, 5, 6, 6, 0, 0, 5, 2, 2, 4,
            1, 1, 1, 1, 7, 1, 2, 3, 3, 5, 5,
            6, 13, 4, 4, 4, 6, 6, 7, 6, 7,
            13, 1, 3, 5, 0, 2, 4, 1, 11};
        Check.is("as many texts as places", wrong.length, places.length);
        for (int i = 0; i < wrong.length && i < places.length; i++) {
            Check.is("read of '" + wrong[i] + "'", Check.read(x, wrong[i]), -1 - places[i]);
            Check.is("the pad is empty", x.count(5), 0);
        }
        Check.same("nothing is told", Check.stateOf(x), before);

        CurveSums eight = new CurveSums(8, 1);
        Check.is("year 7 of eight", Check.read(eight, "7:1+1"), 1);
        Check.is("year 8 of eight", Check.read(eight, "0:1+1;8:1+1"), -1 - 6);
        Check.is("year 10 of eight", Check.read(eight, "10:1+1"), -1 - 1);
        CurveSums eleven = new CurveSums(11, 1);
        Check.is("year 10 of eleven", Check.read(eleven, "10:1+1"), 1);
        Check.is("year 11 of eleven", Check.read(eleven, "11:1+1"), -1 - 1);

        CurveSums full = new CurveSums(60, 1);
        String rows = "0:1+1;1:1+1;2:1+1;3:1+1;4:1+1;5:1+1;6:1+1;7:1+1;8:1+1;9:1+1;0:2+2;1:2+2;2:2+2;3:2+2;4:2+2;";
        Check.is("a full pad", Check.read(full, rows + "59:3000+10"), 16);
        Check.is("rows", full.count(6), 11);
        Check.is("a full pad that ends too early", Check.read(full, rows + "5:1+1;5:1+"), -101);
        Check.is("a full pad that is wrong at its end", Check.read(full, rows + "59:3000+1+"), -1 - 99);

        CurveSums four = new CurveSums(8, 65536);
        Check.is("four rows", Check.read(four, "3:100+4;0:100+1;2:100+3;1:110+2"), 4);
        four.date(110, 1);
        int[] due = {25, 65536, 541, 1383};
        for (int year = 0; year < 4; year++) {
            Check.is("each with its own age and spread", four.weight(0, year), due[year]);
        }
        Check.end();
    }
}
