/** Promises 34 to 39: sheets, and rolls read from them. */
final class RollsTest {
    private static final int BAD = TenForOne.BAD, NOT = TenForOne.NOT, NONE = TenForOne.NONE, NULL = TenForOne.NULL,
        CAST = TenForOne.CAST, INDEX = TenForOne.INDEX, SIZE = TenForOne.SIZE;

    public static void main(String[] args) {
        promise34Sheet();
        promise35Drop();
        promise36Item();
        promise36LowestBits();
        promise37Refusals();
        promise37To39LeftOut();
        promise38And39AsOfThen();
        Due.end();
    }

    private static int rollOf(TenForOne x, int day, int... names) {
        x.sheet(3, 2, names.length);
        for (int i = 0; i < names.length; i++) {
            x.item(3, 2, i, names[i]);
        }
        return x.roll(0, day, 3, 2);
    }

    private static void promise34Sheet() {
        TenForOne x = Villages.ofNames();
        Due.due("sheet -1", x.sheet(-1, 0, 1), BAD);
        Due.due("sheet 4", x.sheet(4, 0, 1), BAD);
        Due.due("lane -1", x.sheet(0, -1, 1), BAD);
        Due.due("lane 3", x.sheet(0, 3, 1), BAD);
        Due.due("n 21", x.sheet(0, 0, 21), BAD);
        Due.due("n -1", x.sheet(0, 0, -1), SIZE);
        Due.due("n least", x.sheet(0, 0, Integer.MIN_VALUE), SIZE);
        Due.due("n greatest", x.sheet(0, 0, Integer.MAX_VALUE), BAD);
        Due.due("BAD ahead of SIZE", x.sheet(4, 0, -1), BAD);
        Due.due("nothing came", x.drop(0), NULL);
        Due.due("n 0", x.sheet(0, 0, 0), 0);
        Due.due("n 20", x.sheet(3, 2, 20), 20);
        x.item(3, 2, 0, 99);
        Due.due("SIZE leaves it", x.sheet(3, 1, -1), SIZE);
        Due.due("as it was", x.item(3, 2, 19, 99), 1);
        Due.due("no name", x.roll(0, 0, 3, 2), NOT);
        Due.due("a new row", x.sheet(3, 2, 20), 20);
        Due.due("is empty", x.roll(0, 0, 3, 2), 0);
        x.joins(x.person(0, -2000, 0, 0, false, -1), 0, 5);
        Due.due("its items are 0", x.roll(0, 5, 3, 2), 0);
        Due.due("another lane", x.sheet(3, 0, 5), 5);
        Due.due("is another", x.item(3, 2, 0, 0), CAST);
    }

    private static void promise35Drop() {
        TenForOne x = Villages.ofNames();
        Due.due("drop(-1)", x.drop(-1), BAD);
        Due.due("drop(4)", x.drop(4), BAD);
        Due.due("drop(2)", x.drop(2), NULL);
        x.sheet(2, 1, 7);
        x.sheet(1, 1, 0);
        Due.due("seven", x.drop(2), 7);
        Due.due("twice", x.drop(2), NULL);
        Due.due("an empty row is a row", x.drop(1), 0);
        Due.due("nothing now", x.item(1, 1, 0, 0), NULL);
    }

    private static void promise36Item() {
        TenForOne x = Villages.ofNames();
        Due.due("nothing", x.item(0, 0, 0, 0), NULL);
        Due.due("NULL ahead of INDEX", x.item(0, 0, -1, 0), NULL);
        x.sheet(0, 1, 3);
        Due.due("sheet -1", x.item(-1, 1, 0, 0), BAD);
        Due.due("sheet 4", x.item(4, 1, 0, 0), BAD);
        Due.due("lane -1", x.item(0, -1, 0, 0), BAD);
        Due.due("lane 3", x.item(0, 3, 0, 0), BAD);
        Due.due("lane 0", x.item(0, 0, 0, 0), CAST);
        Due.due("lane 2", x.item(0, 2, 0, 0), CAST);
        Due.due("CAST ahead of INDEX", x.item(0, 2, 3, 0), CAST);
        Due.due("BAD ahead of NULL", x.item(1, 3, 0, 0), BAD);
        Due.due("i -1", x.item(0, 1, -1, 0), INDEX);
        Due.due("i 3", x.item(0, 1, 3, 0), INDEX);
        Due.due("i 2", x.item(0, 1, 2, 0), 1);
        x.sheet(0, 1, 0);
        Due.due("no items", x.item(0, 1, 0, 0), INDEX);
    }

    private static void promise36LowestBits() {
        int[] values = {39, 40, -1, 256 + 7, 128, 65536 + 7, 32768, 1 << 24};
        int[][] due = {
            {1, NOT, NOT, 1, NOT, 1, 1, 1},
            {1, NOT, NOT, NOT, NOT, 1, NOT, 1},
            {1, NOT, NOT, NOT, NOT, NOT, NOT, NOT}
        };
        for (int lane = 0; lane < 3; lane++) {
            for (int i = 0; i < values.length; i++) {
                TenForOne x = Villages.ofNames(20);
                x.sheet(0, lane, 1);
                x.item(0, lane, 0, values[i]);
                Due.due("lane " + lane + ", value " + values[i], x.roll(0, 5, 0, lane), due[lane][i]);
            }
        }
        TenForOne x = Villages.ofNames(7);
        x.sheet(0, 0, 1);
        x.item(0, 0, 0, 256 + 7);
        Due.due("the lowest bits are the name", x.roll(0, 5, 0, 0), 0);
    }

    private static void promise37Refusals() {
        TenForOne x = Villages.ofNames(1);
        Due.due("nothing", x.roll(0, 5, 0, 0), NULL);
        Due.due("group 2", x.roll(2, 5, 0, 0), BAD);
        Due.due("group -1", x.roll(-1, 5, 0, 0), BAD);
        Due.due("day -1", x.roll(0, -1, 0, 0), BAD);
        Due.due("day 10000", x.roll(0, 10000, 0, 0), BAD);
        Due.due("sheet 4", x.roll(0, 5, 4, 0), BAD);
        Due.due("lane 3", x.roll(0, 5, 0, 3), BAD);
        x.sheet(0, 2, 1);
        x.item(0, 2, 0, 40);
        Due.due("another lane", x.roll(0, 5, 0, 1), CAST);
        Due.due("no name", x.roll(0, 5, 0, 2), NOT);
        Due.due("no roll was told", x.leftOut(1), NONE);
        Due.due("nor of a member", x.sure(0), NONE);
        Due.due("leftOut(-1)", x.leftOut(-1), BAD);
        Due.due("leftOut(40)", x.leftOut(40), BAD);
        Due.due("sure(-1)", x.sure(-1), BAD);
        Due.due("sure(1)", x.sure(1), BAD);
    }

    private static void leftOut(String told, TenForOne x, int... due) {
        for (int name = 0; name < due.length; name++) {
            Due.due(told + ": leftOut(" + name + ")", x.leftOut(name), due[name]);
        }
    }

    private static void sure(String told, TenForOne x, int... due) {
        for (int who = 0; who < due.length; who++) {
            Due.due(told + ": sure(" + who + ")", x.sure(who), due[who]);
        }
    }

    private static void promise37To39LeftOut() {
        TenForOne x = Villages.ofNames(0, 0, 0, 1, 2, 39);
        x.person(0, -2000, 0, 0, false, -1);
        x.joins(6, 1, 5);
        Due.due("nobody is on it", rollOf(x, 5), 6);
        leftOut("nobody", x, 3, 1, 1, 0);
        sure("nobody", x, 1, 1, 1, 1, 1, 1, NONE);
        Due.due("one of three", rollOf(x, 5, 0, 39, 2, 2, 2), 3);
        leftOut("one of three", x, 2, 1, 0, 0);
        sure("one of three", x, NOT, NOT, NOT, 1, 0, 0, NONE);
        Due.due("all of three", rollOf(x, 5, 0, 0, 0, 5, 5), 3);
        leftOut("all of three", x, 0, 1, 1, 0, 0, 0);
        sure("all of three", x, 0, 0, 0, 1, 1, 1, NONE);
        Due.due("name 39", x.leftOut(39), 1);
        Due.due("more than three", rollOf(x, 5, 0, 0, 0, 0, 1, 2, 39), 0);
        sure("more than three", x, 0, 0, 0, 0, 0, 0, NONE);
        Due.due("nobody was a member", rollOf(x, 4, 0), 0);
        sure("nobody was a member", x, NONE, NONE, NONE, NONE, NONE, NONE, NONE);
    }

    private static void promise38And39AsOfThen() {
        TenForOne x = Villages.ofNames(0, 0, 1);
        Due.due("a roll", rollOf(x, 5, 0), 2);
        x.item(3, 2, 0, 1);
        x.drop(3);
        x.leaves(1, 6);
        x.flees(0, 6);
        x.dies(2, 5);
        x.joins(x.person(0, -2000, 1, 0, false, -1), 0, 5);
        leftOut("as of then", x, 1, 1);
        sure("as of then", x, NOT, NOT, 1, NONE);
        Due.due("a refused roll", x.roll(0, 5, 3, 2), NULL);
        sure("a refused roll changes nothing", x, NOT, NOT, 1, NONE);
        Due.due("a new roll", rollOf(x, 6, 1), 0);
        leftOut("a new roll", x, 0, 0);
        sure("a new roll", x, NONE, NONE, NONE, 0);
    }
}
