/** Promise 3: edition. */
public final class Promise03EditionTest {
    public static void main(String[] args) {
        CurveSums x = new CurveSums(8, 1000);
        x.curve(2, 200, 10);
        Check.is("edition", x.edition(), 1);
        Check.is("editions", x.count(1), 2);
        Check.is("in use", x.count(2), 1);
        Check.is("rows as in edition 0", x.count(6), 1);
        Check.is("the row came along", x.curve(2, 400, 20), true);
        x.curve(5, 500, 10);
        Check.is("rows", x.count(6), 2);

        x.use(0);
        Check.is("rows of edition 0 stay", x.count(6), 1);
        x.date(200, 10);
        Check.is("edition 0 has its old row", x.weight(0, 2), 1000);
        Check.is("and none of the other's", x.weight(0, 5), 0);

        Check.is("edition by the one in use, not the latest", x.edition(), 2);
        Check.is("rows as in edition 0", x.count(6), 1);
        x.use(0);
        x.curve(7, 1, 1);
        x.use(2);
        Check.is("a row told to edition 0 later is not in 2", x.count(6), 1);
        x.use(1);
        Check.is("edition by 1", x.edition(), 3);
        Check.is("rows as in edition 1", x.count(6), 2);
        x.date(400, 20);
        Check.is("with its ages and spreads", x.weight(1, 2), 1000);

        String before = Check.stateOf(x);
        Check.noState("a fifth edition", x::edition);
        x.use(1);
        Check.noState("a fifth edition by 1", x::edition);
        Check.is("use", x.use(3), 1);
        Check.same("wrong calls change nothing", Check.stateOf(x), before);
        Check.end();
    }
}
