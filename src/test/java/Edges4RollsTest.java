/** Edges that section 4 of the document names, beside those of RollsTest, NumbersTest and RefusalsTest. */
final class Edges4RollsTest {
    private static final int NOT = TenForOne.NOT, NONE = TenForOne.NONE, NULL = TenForOne.NULL, CAST = TenForOne.CAST,
        INDEX = TenForOne.INDEX;

    private Edges4RollsTest() {
    }

    public static void main(String[] args) {
        nothingAtFirst();
        emptyRowAndFullRow();
        aNewRowIsNew();
        sheetsApart();
        lowestBits();
        namesFirstAndLast();
        allOfTheSheet();
        belowNoughtIsNought();
        surelyAndSurelyNot();
        membersOfThatDay();
        asOfThen();
        Due.end();
    }

    private static int rollOf(TenForOne x, int... names) {
        x.sheet(3, 0, names.length);
        for (int i = 0; i < names.length; i++) {
            x.item(3, 0, i, names[i]);
        }
        return x.roll(0, 5, 3, 0);
    }

    /** "SHEETS 0 .. 3: nothing (at first)". */
    private static void nothingAtFirst() {
        for (int sheet = 0; sheet < 4; sheet++) {
            TenForOne x = Villages.ofNames(1);
            Due.due("drop(" + sheet + ")", x.drop(sheet), NULL);
            for (int lane = 0; lane < 3; lane++) {
                Due.due("item of " + sheet + " as " + lane, x.item(sheet, lane, 0, 0), NULL);
                Due.due("roll of " + sheet + " as " + lane, x.roll(0, 5, sheet, lane), NULL);
            }
            Due.due("still nothing", x.drop(sheet), NULL);
        }
    }

    /** "a row of a LANE: 0 bytes, 1 shorts, 2 ints, of 0 to 20 items". */
    private static void emptyRowAndFullRow() {
        for (int lane = 0; lane < 3; lane++) {
            TenForOne x = Villages.ofNames(7, 7);
            Due.due("no items of lane " + lane, x.sheet(0, lane, 0), 0);
            Due.due("no first item", x.item(0, lane, 0, 7), INDEX);
            Due.due("an empty roll", x.roll(0, 5, 0, lane), 2);
            Due.due("dropped, empty", x.drop(0), 0);
            Due.due("dropped, nothing", x.drop(0), NULL);
            Due.due("one item of lane " + lane, x.sheet(0, lane, 1), 1);
            Due.due("the first of one", x.item(0, lane, 0, 7), 1);
            Due.due("the second of one", x.item(0, lane, 1, 7), INDEX);
            Due.due("a roll of one", x.roll(0, 5, 0, lane), 1);
            Due.due("dropped, one", x.drop(0), 1);
            Due.due("twenty items of lane " + lane, x.sheet(0, lane, 20), 20);
            Due.due("the twentieth", x.item(0, lane, 19, 7), 1);
            Due.due("the twenty-first", x.item(0, lane, 20, 7), INDEX);
            Due.due("a roll of twenty", x.roll(0, 5, 0, lane), 1);
            Due.due("dropped, twenty", x.drop(0), 20);
            for (int other = 0; other < 3; other++) {
                Due.due("gone, as lane " + other, x.item(0, other, 0, 0), NULL);
            }
        }
    }

    /** "A SHEET holds a new row of a LANE": of noughts, whatever was there. */
    private static void aNewRowIsNew() {
        TenForOne x = Villages.ofNames(0, 0);
        x.sheet(0, 2, 20);
        for (int i = 0; i < 20; i++) {
            x.item(0, 2, i, 40);
        }
        Due.due("no names", x.roll(0, 5, 0, 2), NOT);
        Due.due("a new row", x.sheet(0, 2, 20), 20);
        Due.due("its items are name 0", x.roll(0, 5, 0, 2), 0);
        x.item(0, 2, 19, 40);
        x.drop(0);
        x.sheet(0, 2, 20);
        Due.due("a new row behind a drop", x.roll(0, 5, 0, 2), 0);
        x.item(0, 2, 1, 40);
        x.sheet(0, 2, 1);
        Due.due("a shorter one", x.roll(0, 5, 0, 2), 1);
        x.sheet(0, 2, 2);
        Due.due("a longer one", x.roll(0, 5, 0, 2), 0);
        x.sheet(0, 1, 2);
        Due.due("of another lane", x.roll(0, 5, 0, 1), 0);
        Due.due("no more of the first", x.roll(0, 5, 0, 2), CAST);
    }

    private static void sheetsApart() {
        TenForOne x = Villages.ofNames(0, 1, 2, 3);
        for (int sheet = 0; sheet < 4; sheet++) {
            x.sheet(sheet, 2, 1);
        }
        for (int sheet = 0; sheet < 4; sheet++) {
            x.item(sheet, 2, 0, sheet);
        }
        for (int sheet = 0; sheet < 4; sheet++) {
            Due.due("roll of " + sheet, x.roll(0, 5, sheet, 2), 3);
            for (int name = 0; name < 4; name++) {
                Due.due("sheet " + sheet + ", name " + name, x.leftOut(name), name == sheet ? 0 : 1);
            }
        }
        Due.due("one is dropped", x.drop(1), 1);
        Due.due("the first stays", x.roll(0, 5, 0, 2), 3);
        Due.due("the third stays", x.roll(0, 5, 2, 2), 3);
        x.sheet(0, 1, 0);
        Due.due("the third is as it was", x.roll(0, 5, 2, 2), 3);
        Due.due("the second holds nothing", x.roll(0, 5, 1, 2), NULL);
    }

    /** "becomes v, its lowest bits": of a byte 8, of a short 16, of an int all, with the sign that they make. */
    private static void lowestBits() {
        int[] values = {7, 256 + 7, -256 + 7, 65536 + 7, -65536 + 7, Integer.MIN_VALUE + 7, 7 << 8, 127, 128, 255,
            32767, 32768, 65535, Integer.MAX_VALUE, Integer.MIN_VALUE, -1};
        // 0: the roll has name 7; 1: another name; NOT: no name.
        int[][] due = {
            {0, 0, 0, 0, 0, 0, 1, NOT, NOT, NOT, NOT, 1, NOT, NOT, 1, NOT},
            {0, NOT, NOT, 0, 0, 0, NOT, NOT, NOT, NOT, NOT, NOT, NOT, NOT, 1, NOT},
            {0, NOT, NOT, NOT, NOT, NOT, NOT, NOT, NOT, NOT, NOT, NOT, NOT, NOT, NOT, NOT}
        };
        for (int lane = 0; lane < 3; lane++) {
            for (int i = 0; i < values.length; i++) {
                TenForOne x = Villages.ofNames(7);
                x.sheet(0, lane, 1);
                Due.due("item takes any v", x.item(0, lane, 0, values[i]), 1);
                Due.due("lane " + lane + ", v " + values[i], x.roll(0, 5, 0, lane), due[lane][i]);
            }
        }
    }

    /** "NOT: an item is no NAME", NAMES being 0 .. 39. */
    private static void namesFirstAndLast() {
        int[][] due = {{-1, NOT}, {0, 1}, {1, 2}, {38, 2}, {39, 1}, {40, NOT}};
        for (int lane = 0; lane < 3; lane++) {
            for (int[] row : due) {
                TenForOne x = Villages.ofNames(0, 39);
                x.sheet(0, lane, 1);
                x.item(0, lane, 0, row[0]);
                Due.due("lane " + lane + ", name " + row[0], x.roll(0, 5, 0, lane), row[1]);
            }
        }
    }

    /** "THE ROLL ... is all of a SHEET": its first and its last item too, and no more than it has. */
    private static void allOfTheSheet() {
        for (int at : new int[] {0, 1, 10, 18, 19}) {
            TenForOne x = Villages.ofNames(5, 6);
            x.sheet(1, 1, 20);
            x.item(1, 1, at, 5);
            Due.due("name 5 at " + at, x.roll(0, 5, 1, 1), 1);
            Due.due("name 5 is not left out", x.leftOut(5), 0);
            Due.due("name 6 is", x.leftOut(6), 1);
            x.item(1, 1, at, -1);
            Due.due("no name at " + at, x.roll(0, 5, 1, 1), NOT);
        }
        TenForOne x = Villages.ofNames(5, 5, 5, 5, 5, 5, 5, 5, 5, 5);
        x.sheet(1, 1, 20);
        for (int i = 0; i < 20; i++) {
            x.item(1, 1, i, 5);
        }
        Due.due("twenty times for ten", x.roll(0, 5, 1, 1), 0);
        Due.due("none is left out", x.leftOut(5), 0);
        Due.due("ten of one name, and nobody on it", rollOf(x), 10);
        Due.due("ten are left out", x.leftOut(5), 10);
        Due.due("nine on it", rollOf(x, 5, 5, 5, 5, 5, 5, 5, 5, 5), 1);
        Due.due("it may be any", x.sure(9), NOT);
        Due.due("ten on it", rollOf(x, 5, 5, 5, 5, 5, 5, 5, 5, 5, 5), 0);
        Due.due("surely not", x.sure(9), 0);
    }

    /** "less how often the ROLL has it (below 0: 0)": what is too much of one name makes up for no other. */
    private static void belowNoughtIsNought() {
        TenForOne x = Villages.ofNames(1, 2);
        Due.due("two too many of one", rollOf(x, 1, 1, 1), 1);
        Due.due("none of it", x.leftOut(1), 0);
        Due.due("one of the other", x.leftOut(2), 1);
        Due.due("names that nobody has", rollOf(x, 3, 4, 39), 2);
        Due.due("none of these", x.leftOut(39), 0);
    }

    /** "SURELY left out ..., if ... not at all; SURELY not, if as often as there are such MEMBERS, or more." */
    private static void surelyAndSurelyNot() {
        int[] due = {1, NOT, NOT, 0, 0};
        for (int listed = 0; listed <= 4; listed++) {
            TenForOne x = Villages.ofNames(9, 9, 9);
            int[] names = new int[listed];
            java.util.Arrays.fill(names, 9);
            Due.due(listed + " of three", rollOf(x, names), Math.max(0, 3 - listed));
            for (int who = 0; who < 3; who++) {
                Due.due(listed + " of three: sure(" + who + ")", x.sure(who), due[listed]);
            }
        }
        TenForOne x = Villages.ofNames(9);
        rollOf(x, 8);
        Due.due("one alone, not on it", x.sure(0), 1);
        rollOf(x, 8, 9);
        Due.due("one alone, on it", x.sure(0), 0);
    }

    /** "how many MEMBERS of it have that NAME": of that GROUP, on that DAY. */
    private static void membersOfThatDay() {
        TenForOne x = Villages.ofNames(1, 1, 1, 1);
        x.person(0, -2000, 1, 0, false, -1);
        x.joins(4, 1, 5);
        x.flees(1, 10);
        x.leaves(2, 10);
        x.dies(3, 10);
        x.sheet(0, 0, 0);
        int[][] due = {{4, 0}, {5, 4}, {9, 4}, {10, 2}, {11, 1}};
        for (int[] row : due) {
            Due.due("of group 0 on " + row[0], x.roll(0, row[0], 0, 0), row[1]);
        }
        Due.due("the dead is no member then", x.sure(3), NONE);
        x.roll(0, 10, 0, 0);
        Due.due("on the day of death", x.sure(3), 1);
        Due.due("on the day of flight", x.sure(1), NONE);
        Due.due("on the day of leaving", x.sure(2), NONE);
        Due.due("of group 1", x.roll(1, 10, 0, 0), 1);
        Due.due("who is of group 0", x.sure(0), NONE);
        Due.due("who is of group 1", x.sure(4), 1);
    }

    /** "Of THE ROLL latest told ... (as of then)". */
    private static void asOfThen() {
        TenForOne x = Villages.ofNames(1, 1);
        Due.due("one of two", rollOf(x, 1), 1);
        x.item(3, 0, 0, 2);
        Due.due("an item that came later", x.sure(0), NOT);
        x.drop(3);
        Due.due("a drop that came later", x.leftOut(1), 1);
        x.joins(x.person(0, -2000, 1, 0, false, -1), 0, 5);
        Due.due("a member who came later", x.leftOut(1), 1);
        Due.due("is none of then", x.sure(2), NONE);
        x.dies(0, 5);
        x.dies(1, 5);
        Due.due("deaths that came later", x.sure(1), NOT);
        x.sheet(2, 2, 3);
        Due.due("a later roll", x.roll(1, 5, 2, 2), 0);
        Due.due("holds then", x.leftOut(1), 0);
        Due.due("for all", x.sure(0), NONE);
    }
}
