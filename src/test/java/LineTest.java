/** Promises 52 and 53: the line. */
public final class LineTest {
    private static final Class<IndexOutOfBoundsException> NO_SUCH = IndexOutOfBoundsException.class;
    private static final Check c = new Check("LineTest");

    public static void main(String[] args) {
        theEmptyLine();
        theExample();
        convoysInOrder();
        theLongestLine();
        c.end();
    }

    private static void theEmptyLine() {
        BargeRiver x = new BargeRiver();
        c.refuses("53 lineAt(0)", NO_SUCH, x, () -> x.lineAt(0));
        c.refuses("53 lineAt(-1)", NO_SUCH, x, () -> x.lineAt(-1));
        c.is("52 writeReach(0)", 7, x.writeReach(0));
        c.is("53 the line", "0: 30dm", Check.line(x));
        c.is("53 lineAt(0)", '0', x.lineAt(0));
        c.is("53 lineAt(6)", 'm', x.lineAt(6));
        for (int i : new int[] {-1, 7, 16, 17, Integer.MIN_VALUE, Integer.MAX_VALUE}) {
            c.refuses("53 lineAt(" + i + ")", NO_SUCH, x, () -> x.lineAt(i));
        }
        for (int r : new int[] {-1, 1, 6, Integer.MIN_VALUE, Integer.MAX_VALUE}) {
            c.refuses("52 writeReach(" + r + ")", NO_SUCH, x, () -> x.writeReach(r));
        }
        c.is("53 the line is as before", "0: 30dm", Check.line(x));
    }

    private static void theExample() {
        BargeRiver x = new BargeRiver();
        x.addReach(10, 24, 40, 50, 15);
        x.addReach(10, 9, 40, 50, 15);
        x.addReach(10, 0, 40, 50, 15);
        x.addBarge(1, 10, 5, 10);
        x.addBarge(0, 10, 5, 10);
        x.addBarge(1, 10, 5, 10);
        x.addBarge(1, 10, 5, 10);
        x.couple(3, 2);
        c.is("52 writeReach(1)", 13, x.writeReach(1));
        c.is("52 the example", "1: 24dm 0 3+2", Check.line(x));
        x.rain(1, 20);
        c.is("53 the line is as before", "1: 24dm 0 3+2", Check.line(x));
        c.is("52 a level of one digit", "2: 9dm", Check.written(x, 2));
        c.is("52 the level 0", "3: 0dm", Check.written(x, 3));
        c.is("52 in place of the line before", "0: 30dm 1", Check.written(x, 0));
        c.refuses("53 no character is left over", NO_SUCH, x, () -> x.lineAt(9));
    }

    private static void convoysInOrder() {
        BargeRiver x = new BargeRiver();
        for (int b = 0; b < 8; b++) {
            x.addBarge(0, 10, 5, 10);
        }
        x.couple(7, 0);
        x.couple(5, 1);
        x.couple(3, 6);
        c.is("52 by their first barges", "0: 30dm 2 3+6 4 5+1 7+0", Check.written(x, 0));
        x.uncouple(6);
        c.is("52 after a split", "0: 30dm 2 3 4 5+1 6 7+0", Check.written(x, 0));
    }

    private static void theLongestLine() {
        BargeRiver x = new BargeRiver();
        for (int reach = 1; reach < 6; reach++) {
            x.addReach(10, 60, 40, 50, 15);
        }
        for (int b = 0; b < 8; b++) {
            x.addBarge(5, 10, 5, 10);
        }
        c.is("52 all alone", "5: 60dm 0 1 2 3 4 5 6 7", Check.written(x, 5));
        for (int b = 1; b < 4; b++) {
            x.couple(0, b);
            x.couple(4, 4 + b);
        }
        c.is("52 all coupled", "5: 60dm 0+1+2+3 4+5+6+7", Check.written(x, 5));
        c.is("52 a reach without barges", "4: 60dm", Check.written(x, 4));
    }
}
