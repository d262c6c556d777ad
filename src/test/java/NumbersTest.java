/**
 * Of each number of each call: the last that is taken and the first that is refused, on both sides, in a village that
 * has some of all there is, and in one that is full. What is refused leaves all as it was.
 */
final class NumbersTest {
    private static final int BAD = TenForOne.BAD, NOT = TenForOne.NOT, NONE = TenForOne.NONE, CAST = TenForOne.CAST,
        NULL = TenForOne.NULL;
    private static final int LEAST = Integer.MIN_VALUE, MOST = Integer.MAX_VALUE;

    interface Numbered {
        int on(TenForOne x, int number);
    }

    private NumbersTest() {
    }

    public static void main(String[] args) {
        people();
        daysOfPeople();
        laws();
        groups();
        daysOfGroups();
        lodgers();
        pleas();
        rolls();
        fullOfPeople();
        fullOfHouses();
        fullOfGroups();
        fullOfPleas();
        Due.end();
    }

    /** From low to high is taken, and answered as told at both ends; all else is BAD. */
    private static void range(String told, Twins.Making making, int low, int high, int atLow, int atHigh,
            Numbered call) {
        Due.due(told + " " + low, call.on(Twins.made(making), low), atLow);
        Due.due(told + " " + high, call.on(Twins.made(making), high), atHigh);
        for (int wrong : new int[] {low - 1, high + 1, LEAST, MOST}) {
            Twins.refused(told + " " + wrong, making, BAD, x -> call.on(x, wrong));
        }
    }

    private static void busy(String told, int low, int high, int atLow, int atHigh, Numbered call) {
        range(told, Villages::busy, low, high, atLow, atHigh, call);
    }

    private static void day(String told, int atFirst, int atLast, Numbered call) {
        busy(told + ", day", 0, 9999, atFirst, atLast, call);
    }

    private static void people() {
        busy("house, lane", 0, 99, 2, 2, (x, v) -> x.house(v));
        busy("person, kind", 0, 3, 9, 9, (x, v) -> x.person(v, 0, 0, 0, false, -1));
        busy("person, born", -9999, 9999, 9, 9, (x, v) -> x.person(0, v, 0, 0, false, -1));
        busy("person, name", 0, 39, 9, 9, (x, v) -> x.person(0, 0, v, 0, false, -1));
        busy("person, house", 0, 1, 9, 9, (x, v) -> x.person(0, 0, 0, v, false, -1));
        busy("person, father", -1, 8, 9, 9, (x, v) -> x.person(0, 0, 0, 0, false, v));
        busy("told, who", 0, 8, NONE, 50, (x, v) -> x.told(v, 5));
        busy("told, what", 0, 5, 0, NONE, (x, v) -> x.told(1, v));
        busy("age, who", 0, 8, 30, 20, (x, v) -> x.age(v, 0));
        busy("dies, who", 0, 8, 70, NOT, (x, v) -> x.dies(v, 100));
        busy("flees, who", 0, 8, 1, NOT, (x, v) -> x.flees(v, 100));
        busy("back, who", 0, 8, NOT, NOT, (x, v) -> x.back(v, 100));
        busy("there, who", 0, 8, 1, 0, (x, v) -> x.there(v, 51));
        busy("kin, a", 0, 8, 1, 0, (x, v) -> x.kin(v, 1));
        busy("kin, b", 0, 8, 1, 0, (x, v) -> x.kin(1, v));
        busy("must, who", 0, 8, 1, 0, (x, v) -> x.must(v, 0));
    }

    private static void daysOfPeople() {
        day("age", 30, 129, (x, v) -> x.age(0, v));
        day("dies", 70, 70, (x, v) -> x.dies(0, v));
        day("flees", 1, 1, (x, v) -> x.flees(0, v));
        day("back", NOT, 9979, (x, v) -> x.back(5, v));
        day("there", 1, 1, (x, v) -> x.there(0, v));
        day("must", 1, 0, (x, v) -> x.must(0, v));
        day("fair, from", 1, 1, (x, v) -> x.fair(v, 9999));
        day("fair, to", 1, 1, (x, v) -> x.fair(0, v));
    }

    private static void laws() {
        busy("type, n", 1, 8, 2, 9, (x, v) -> x.type(0x2020202020202020L, v));
        busy("type, the byte alone", 32, 126, 2, 2, (x, v) -> x.type(v & 255, 1));
        for (int place = 0; place < 8; place++) {
            int shift = 8 * place;
            busy("type, byte " + place, 32, 126, 9, 9, (x, v) -> x.type(with(v, shift), 8));
        }
        Twins.refused("type, byte 128", Villages::busy, BAD, x -> x.type(128, 1));
        Twins.refused("type, byte 255", Villages::busy, BAD, x -> x.type(255, 1));
        Due.due("type, a byte above the n lowest", Twins.made(Villages::busy).type(with(0, 8), 1), 2);
    }

    private static long with(int sign, int shift) {
        return 0x2020202020202020L & ~(255L << shift) | (sign & 255L) << shift;
    }

    private static void groups() {
        busy("group, lane", 0, 99, 2, 2, (x, v) -> x.group(v));
        busy("joins, who", 0, 8, NOT, 2, (x, v) -> x.joins(v, 1, 5));
        busy("joins, group", 0, 1, 3, 4, (x, v) -> x.joins(8, v, 50));
        busy("leaves, who", 0, 8, 0, NOT, (x, v) -> x.leaves(v, 100));
        busy("groupOf, who", 0, 8, 0, NONE, (x, v) -> x.groupOf(v, 5));
        busy("members, group", 0, 1, 3, 3, (x, v) -> x.members(v, 8));
        busy("head, group", 0, 1, 0, 3, (x, v) -> x.head(v, 8));
        busy("wants, what", 0, 1, 1, 1, (x, v) -> x.wants(6, v));
        busy("wantsAt, what", 0, 1, 6, 2, (x, v) -> x.wantsAt(6, v, 0));
        busy("wantsAt, i", 0, 4, 0, 6, (x, v) -> x.wantsAt(0, 0, v));
        busy("came, who", 0, 8, NONE, NONE, (x, v) -> x.came(v));
    }

    private static void daysOfGroups() {
        day("joins", 1, NOT, (x, v) -> x.joins(8, 0, v));
        day("leaves", NOT, 0, (x, v) -> x.leaves(0, v));
        day("groupOf", NONE, 0, (x, v) -> x.groupOf(0, v));
        day("members", 0, 2, (x, v) -> x.members(0, v));
        day("head", NONE, 3, (x, v) -> x.head(1, v));
        day("wants", 5, 1, (x, v) -> x.wants(v, 0));
        day("wantsAt", 0, 7, (x, v) -> x.wantsAt(v, 0, 0));
        day("whole", 0, 5, (x, v) -> x.whole(v));
    }

    private static void lodgers() {
        busy("stay, who", 0, 8, CAST, CAST, (x, v) -> x.stay(v, 0, 40, 50));
        busy("stay, house", 0, 1, 1, 1, (x, v) -> x.stay(4, v, 40, 50));
        day("stay, from", NOT, 1, (x, v) -> x.stay(4, 0, v, 9999));
        day("stay, to", NOT, NOT, (x, v) -> x.stay(4, 0, 0, v));
        busy("stay, to, not ahead of from", 40, 9999, 1, 1, (x, v) -> x.stay(4, 0, 40, v));
        busy("fair, to, not ahead of from", 40, 9999, 1, 1, (x, v) -> x.fair(40, v));
        busy("charged, who", 0, 8, CAST, CAST, (x, v) -> x.charged(v, 15));
        day("charged", NONE, NONE, (x, v) -> x.charged(4, v));
    }

    private static void pleas() {
        busy("plea, who", 0, 8, NOT, NOT, (x, v) -> x.plea(v, 1));
        busy("plea, fine", 1, 9999, 2, 2, (x, v) -> x.plea(2, v));
        busy("about, plea", 0, 1, 5, 4, (x, v) -> x.about(v, 0));
        busy("about, what", 0, 5, 5, 2, (x, v) -> x.about(0, v));
        day("judge", 0, 0, (x, v) -> x.judge(v));
        busy("owes, who", 0, 8, 70, 0, (x, v) -> x.owes(v, -1));
        busy("owes, plea", -1, 1, 70, 0, (x, v) -> x.owes(0, v));
        busy("pays, who", 0, 8, 1, NOT, (x, v) -> x.pays(v, 1));
        busy("pays, amount", 1, 99999, 1, 70, (x, v) -> x.pays(0, v));
        busy("borne, group", 0, 1, 100, 0, (x, v) -> x.borne(v, 8, 0));
        busy("borne, what", 0, 2, 100, 1, (x, v) -> x.borne(0, 8, v));
        day("borne", 100, 50, (x, v) -> x.borne(0, v, 1));
        busy("count, what", 0, 6, 2, 0, (x, v) -> x.count(v));
    }

    private static void rolls() {
        busy("sheet, sheet", 0, 3, 1, 1, (x, v) -> x.sheet(v, 0, 1));
        busy("sheet, lane", 0, 2, 1, 1, (x, v) -> x.sheet(0, v, 1));
        busy("drop", 0, 3, 3, 0, (x, v) -> x.drop(v));
        busy("item, sheet", 0, 3, 1, CAST, (x, v) -> x.item(v, 0, 0, 0));
        busy("item, lane", 0, 2, 1, CAST, (x, v) -> x.item(0, v, 0, 0));
        busy("roll, group", 0, 1, 1, 2, (x, v) -> x.roll(v, 8, 0, 0));
        day("roll", 0, 1, (x, v) -> x.roll(0, v, 0, 0));
        busy("roll, sheet", 0, 3, 1, CAST, (x, v) -> x.roll(0, 8, v, 0));
        busy("roll, lane", 0, 2, 1, CAST, (x, v) -> x.roll(0, 8, 0, v));
        busy("leftOut, name", 0, 39, 1, 0, (x, v) -> x.leftOut(v));
        busy("sure, who", 0, 8, NOT, NONE, (x, v) -> x.sure(v));
    }

    private static void full48(TenForOne x) {
        Villages.group(x, 10);
        Villages.men(x, 36);
        x.person(3, -2000, 0, 0, false, -1);
        x.person(0, -2000, 0, 0, true, -1);
        x.joins(47, 1, 5);
        x.stay(46, 0, 5, 9);
    }

    private static void full(String told, int at47, Numbered call) {
        Due.due(told + ", the last of 48", call.on(Twins.made(NumbersTest::full48), 47), at47);
        Twins.refused(told + ", one behind 48", NumbersTest::full48, BAD, x -> call.on(x, 48));
    }

    private static void fullOfPeople() {
        full("told", 1, (x, v) -> x.told(v, 3));
        full("age", 20, (x, v) -> x.age(v, 0));
        full("dies", 0, (x, v) -> x.dies(v, 6));
        full("flees", 1, (x, v) -> x.flees(v, 6));
        full("back", NOT, (x, v) -> x.back(v, 6));
        full("there", 1, (x, v) -> x.there(v, 6));
        full("kin", 0, (x, v) -> x.kin(v, 0));
        full("must", 1, (x, v) -> x.must(v, 0));
        full("joins", NOT, (x, v) -> x.joins(v, 0, 6));
        full("leaves", 1, (x, v) -> x.leaves(v, 6));
        full("groupOf", 1, (x, v) -> x.groupOf(v, 6));
        full("stay", CAST, (x, v) -> x.stay(v, 0, 6, 7));
        full("charged", CAST, (x, v) -> x.charged(v, 6));
        full("came", NONE, (x, v) -> x.came(v));
        full("plea", NOT, (x, v) -> x.plea(v, 1));
        full("owes", 0, (x, v) -> x.owes(v, -1));
        full("pays", NOT, (x, v) -> x.pays(v, 1));
        full("sure", NONE, (x, v) -> x.sure(v));
        TenForOne x = Twins.made(NumbersTest::full48);
        Due.due("the last of 48 is the head", x.head(1, 5), 47);
        Due.due("the last who want", x.wantsAt(5, 0, 35), 45);
        Due.due("none behind them", x.wantsAt(5, 0, 36), BAD);
        x.flees(0, 6);
        x.plea(0, 7);
        x.judge(37);
        Due.due("the last does not answer for another group", x.owes(47, 0), 0);
        x.sheet(0, 0, 0);
        Due.due("a roll of the last's group", x.roll(1, 5, 0, 0), 1);
        Due.due("the last is left out", x.sure(47), 1);
    }

    private static void fullOfHouses() {
        Twins.Making making = x -> {
            Villages.houses(x, 20);
            x.person(3, -2000, 0, 19, false, -1);
            x.person(0, -2000, 0, 19, false, -1);
            x.group(50);
            x.joins(1, 0, 5);
        };
        range("person, house of 20", making, 0, 19, 2, 2, (x, v) -> x.person(0, 0, 0, v, false, -1));
        range("stay, house of 20", making, 0, 19, 0, 0, (x, v) -> x.stay(0, v, 5, 9));
        TenForOne x = Twins.made(making);
        x.stay(0, 19, 5, 9);
        Due.due("told of house 19", x.told(0, 2), 19);
        Due.due("charged of house 19", x.charged(0, 7), 0);
    }

    private static void fullOfGroups() {
        Twins.Making making = x -> {
            Villages.houses(x, 1);
            Villages.groups(x, 8);
            Villages.men(x, 3);
            x.joins(0, 0, 5);
            x.joins(1, 7, 5);
            x.sheet(0, 0, 0);
        };
        range("joins, group of 8", making, 0, 7, 2, 2, (x, v) -> x.joins(2, v, 5));
        range("members, group of 8", making, 0, 7, 1, 1, (x, v) -> x.members(v, 5));
        range("head, group of 8", making, 0, 7, 0, 1, (x, v) -> x.head(v, 5));
        range("borne, group of 8", making, 0, 7, 0, 0, (x, v) -> x.borne(v, 5, 2));
        range("roll, group of 8", making, 0, 7, 1, 1, (x, v) -> x.roll(v, 5, 0, 0));
        Due.due("groupOf, the last of 8", Twins.made(making).groupOf(1, 5), 7);
        Due.due("leaves, the last of 8", Twins.made(making).leaves(1, 6), 7);
        Due.due("a sheet that holds nothing", Twins.made(making).roll(7, 5, 1, 0), NULL);
    }

    private static void fullOfPleas() {
        Twins.Making making = x -> {
            Villages.group(x, 2);
            for (int i = 0; i < 20; i++) {
                x.flees(0, 10 + 2 * i);
                x.plea(0, 100 + i);
                x.back(0, 11 + 2 * i);
            }
        };
        range("about, plea of 20", making, 0, 19, 100, 119, (x, v) -> x.about(v, 3));
        range("owes, plea of 20", making, -1, 19, 0, 0, (x, v) -> x.owes(1, v));
    }
}
