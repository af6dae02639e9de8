/** Promise 18: unit. */
public final class Promise18UnitTest {
    public static void main(String[] args) {
        CurveSums x = new CurveSums(8, 1);
        Check.is("unit of none", x.unit(0, 0), 0);
        Check.is("of a, the lowest bits first", x.unit('0' | ':' << 8 | '1' << 16 | '+' << 24, '2'), 5);
        Check.is("signs", x.count(5), 5);
        Check.is("read", x.read(), 1);
        Check.is("then of b", x.unit('0', ':' | '1' << 8 | '+' << 16 | '2' << 24), 5);
        Check.is("read", x.read(), 1);
        Check.is("0 is none between signs", x.unit('0' | ':' << 16, '1' << 8 | '+' << 24), 4);
        Check.is("behind those ahead", x.unit(0, '3' << 24), 5);
        Check.is("read", x.read(), 1);
        Check.is("the least and the greatest sign", x.unit(32 | 126 << 8, 32 << 24 | 126), 4);

        for (int shift = 0; shift < 32; shift += 8) {
            for (int sign : new int[] {1, 31, 127, 128, 255}) {
                int wrong = sign << shift;
                Check.noArgument("unit(" + wrong + ", 0)", () -> x.unit(wrong, 0));
                Check.noArgument("unit(0, " + wrong + ")", () -> x.unit(0, wrong));
                Check.noArgument("unit(32, " + wrong + ")", () -> x.unit(32, wrong));
            }
        }
        Check.noArgument("unit(MIN_VALUE, 0)", () -> x.unit(Integer.MIN_VALUE, 0));
        Check.noArgument("unit(0, MAX_VALUE)", () -> x.unit(0, Integer.MAX_VALUE));
        Check.noArgument("unit(-1, -1)", () -> x.unit(-1, -1));
        Check.is("wrong calls change nothing", x.count(5), 4);

        for (int signs = 4; signs < 100; signs += 8) {
            x.unit(0x20202020, 0x20202020);
        }
        Check.is("a full pad", x.count(5), 100);
        Check.is("none fit still", x.unit(0, 0), 100);
        Check.noState("one more", () -> x.unit(32, 0));
        Check.noState("one more in b", () -> x.unit(0, 32 << 24));
        Check.noArgument("a wrong one more", () -> x.unit(32, 31));
        Check.is("wrong calls change nothing", x.count(5), 100);
        x.read();
        for (int signs = 0; signs < 96; signs += 8) {
            x.unit(0x20202020, 0x20202020);
        }
        Check.noState("101", () -> x.unit(0x20202020, 32));
        Check.is("nothing came of it", x.count(5), 96);
        Check.is("100 may be", x.unit(0x20202020, 0), 100);

        for (int shift = 0; shift < 32; shift += 8) {
            CurveSums y = new CurveSums(8, 1);
            for (int signs = 0; signs < 96; signs += 8) {
                y.unit(0x21212121, 0x7e7e7e7e);
            }
            y.unit(0x212121, 0);
            int one = 33 << shift;
            Check.is("the hundredth, " + one, y.unit(shift < 16 ? one : 0, shift < 16 ? 0 : one), 100);
            Check.noState("one more, " + one, () -> y.unit(one, 0));
            Check.noState("one more in b, " + one, () -> y.unit(0, one));
        }
        Check.end();
    }
}
