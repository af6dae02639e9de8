/** Promise 20: count. */
public final class Promise20CountTest {
    public static void main(String[] args) {
        CurveSums x = new CurveSums(20, 1000);
        int[] fresh = {20, 1, 0, 0, 0, 0, 0};
        for (int what = 0; what < 7; what++) {
            Check.is("count(" + what + ") of a new object", x.count(what), fresh[what]);
        }
        x.curve(0, 1, 1);
        x.curve(1, 1, 1);
        x.edition();
        x.edition();
        x.use(1);
        x.curve(2, 1, 1);
        x.curve(2, 2, 1);
        x.date(1, 1);
        x.date(1, 1);
        x.sum(0, 1);
        x.mix(0, 1, 1, 2);
        x.joinRepeats(0, 1);
        for (int i = 0; i < 7; i++) {
            x.gap(0, 1);
        }
        x.unit(0x202020, 0x20202020);
        x.unit(0x202020, 0);
        int[] later = {20, 3, 1, 5, 7, 10, 3};
        for (int what = 0; what < 7; what++) {
            Check.is("count(" + what + ")", x.count(what), later[what]);
        }
        x.use(2);
        Check.is("rows of edition 2", x.count(6), 2);
        Check.is("in use", x.count(2), 2);
        for (int what : new int[] {-1, 7, 8, Integer.MIN_VALUE, Integer.MAX_VALUE}) {
            Check.noIndex("count(" + what + ")", () -> x.count(what));
        }
        Check.end();
    }
}
