/** The calls that README.md shows answer what it says. */
public final class ReadmeTest {
    private static final Check c = new Check("ReadmeTest");

    public static void main(String[] args) {
        BargeRiver river = new BargeRiver();
        c.is("addReach", 1, river.addReach(10, 20, 40, 50, 15));
        int barge = river.addBarge(0, 40, 5, 10);
        int other = river.addBarge(0, 30, 5, 10);
        c.is("the first barge", 0, barge);
        c.is("the second barge", 1, other);
        c.is("buy", 2000L, river.buy(barge, 80));
        c.is("couple", 2, river.couple(barge, other));
        c.is("partsFor", 2, river.partsFor(barge, 0));
        c.is("waterFor", 80, river.waterFor(barge, 1));
        c.is("pass", 2, river.pass(barge, true));
        c.is("endWeek", 1, river.endWeek());
        c.is("the price in the reach 0", 110, river.priceIn(0));
        c.is("sell", 9200L, river.sell(barge, 80));
        c.is("the line", "1: 27dm 0+1", Check.written(river, 1));
        int long60 = river.addBarge(0, 60, 5, 10);
        c.is("isPossible asks first", false, river.isPossible(long60, 1));
        c.refusesPassage("a refused passage", BargeRiver.TOO_LONG, 0, river,
                () -> river.pass(long60, true));
        c.end();
    }
}
