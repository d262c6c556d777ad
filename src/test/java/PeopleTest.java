/** Promises 1 to 10: a new object, houses, people, their days, kin. */
final class PeopleTest {
    private static final int BAD = TenForOne.BAD, NOT = TenForOne.NOT, FULL = TenForOne.FULL, NONE = TenForOne.NONE;

    public static void main(String[] args) {
        promise1NewObject();
        promise2House();
        promise3Person();
        promise3Father();
        promise4Told();
        promise5Age();
        promise6Dies();
        promise7Flees();
        promise8Back();
        promise9There();
        promise10Kin();
        Due.end();
    }

    private static TenForOne withHouse() {
        TenForOne x = Villages.at(0);
        return x;
    }

    private static TenForOne withMan(int born) {
        TenForOne x = withHouse();
        x.person(0, born, 0, 0, false, -1);
        return x;
    }

    private static void promise1NewObject() {
        TenForOne x = new TenForOne();
        for (int what = 0; what <= 6; what++) {
            Due.due("new: count(" + what + ")", x.count(what), 0);
        }
        Due.due("new: laws()", x.laws(), -20);
        Due.due("new: leftOut(0)", x.leftOut(0), NONE);
        Due.due("new: told(0, 0)", x.told(0, 0), BAD);
        Due.due("new: wants(0, 0)", x.wants(0, 0), 0);
        for (int sheet = 0; sheet < 4; sheet++) {
            Due.due("new: drop(" + sheet + ")", x.drop(sheet), TenForOne.NULL);
        }
        x.house(0);
        x.group(0);
        int[][] ages = {{11, 0, 0, 0}, {12, 1, 0, 1}, {60, 1, 0, 1}, {61, 0, 0, 0}};
        for (int[] row : ages) {
            for (int kind = 0; kind <= 2; kind++) {
                int who = x.person(kind, -100 * row[0], 0, 0, false, -1);
                Due.due("new: must, kind " + kind + ", age " + row[0], x.must(who, 0), row[kind + 1]);
            }
        }
        x.joins(0, 0, 0);
        int lodger = x.person(3, -2000, 0, 0, false, -1);
        x.stay(lodger, 0, 5, 9);
        Due.due("new: the second night", x.charged(lodger, 6), NONE);
        Due.due("new: the third night", x.charged(lodger, 7), 0);
    }

    private static void promise2House() {
        TenForOne x = new TenForOne();
        Due.due("house(-1)", x.house(-1), BAD);
        Due.due("house(100)", x.house(100), BAD);
        for (int i = 0; i < 20; i++) {
            Due.due("house " + i, x.house(i == 0 ? 0 : 99), i);
        }
        Due.due("house 20", x.house(5), FULL);
        Due.due("BAD ahead of FULL", x.house(100), BAD);
        Due.due("count(0)", x.count(0), 20);
    }

    private static void promise3Person() {
        TenForOne x = new TenForOne();
        Due.due("no house", x.person(0, 0, 0, 0, false, -1), BAD);
        x.house(7);
        Due.due("kind -1", x.person(-1, 0, 0, 0, false, -1), BAD);
        Due.due("kind 4", x.person(4, 0, 0, 0, false, -1), BAD);
        Due.due("born -10000", x.person(0, -10000, 0, 0, false, -1), BAD);
        Due.due("born 10000", x.person(0, 10000, 0, 0, false, -1), BAD);
        Due.due("name -1", x.person(0, 0, -1, 0, false, -1), BAD);
        Due.due("name 40", x.person(0, 0, 40, 0, false, -1), BAD);
        Due.due("house -1", x.person(0, 0, 0, -1, false, -1), BAD);
        Due.due("house 1", x.person(0, 0, 0, 1, false, -1), BAD);
        Due.due("father -2", x.person(0, 0, 0, 0, false, -2), BAD);
        Due.due("father is none as yet", x.person(0, 0, 0, 0, false, 0), BAD);
        Due.due("nobody came", x.count(1), 0);
        Due.due("the first", x.person(0, -9999, 0, 0, false, -1), 0);
        Due.due("the second", x.person(3, 9999, 39, 0, true, -1), 1);
        for (int i = 2; i < 48; i++) {
            Due.due("person " + i, x.person(i % 4, i, i % 40, 0, i % 2 == 0, -1), i);
        }
        Due.due("person 48", x.person(0, 0, 0, 0, false, -1), FULL);
        Due.due("BAD ahead of FULL", x.person(0, 0, 0, 0, false, 48), BAD);
        Due.due("count(1)", x.count(1), 48);
    }

    private static void promise3Father() {
        TenForOne x = withHouse();
        for (int kind = 0; kind <= 3; kind++) {
            x.person(kind, -3000, 0, 0, false, -1);
        }
        for (int father = 0; father <= 2; father++) {
            Due.due("1199 days", x.person(0, -1801, 0, 0, false, father), BAD);
            Due.due("1200 days", x.person(0, -1800, 0, 0, false, father), 4 + father);
        }
        Due.due("a stranger", x.person(0, 0, 0, 0, false, 3), BAD);
        Due.due("one's own number", x.person(0, 0, 0, 0, false, 7), BAD);
        Due.due("a stranger's father", x.person(3, 0, 0, 0, false, 0), 7);
    }

    private static void promise4Told() {
        TenForOne x = new TenForOne();
        x.house(1);
        x.house(2);
        x.person(1, -5000, 39, 1, true, -1);
        x.person(2, -3000, 0, 0, false, 0);
        int[][] due = {{1, 39, 1, 1, NONE, NONE}, {2, 0, 0, 0, 0, NONE}};
        for (int who = 0; who < 2; who++) {
            for (int what = 0; what < 6; what++) {
                Due.due("told(" + who + ", " + what + ")", x.told(who, what), due[who][what]);
            }
        }
        x.dies(1, 0);
        x.dies(0, 9999);
        Due.due("dead on day 0", x.told(1, 5), 0);
        Due.due("dead on day 9999", x.told(0, 5), 9999);
        Due.due("what -1", x.told(0, -1), BAD);
        Due.due("what 6", x.told(0, 6), BAD);
        Due.due("who -1", x.told(-1, 0), BAD);
        Due.due("who 2", x.told(2, 0), BAD);
    }

    private static void promise5Age() {
        TenForOne x = withMan(150);
        Due.due("a day ahead", x.age(0, 149), NONE);
        Due.due("day 0", x.age(0, 0), NONE);
        Due.due("that day", x.age(0, 150), 0);
        Due.due("99 days", x.age(0, 249), 0);
        Due.due("100 days", x.age(0, 250), 1);
        Due.due("day -1", x.age(0, -1), BAD);
        Due.due("day 10000", x.age(0, 10000), BAD);
        Due.due("who 1", x.age(1, 0), BAD);
        x.person(0, -9999, 0, 0, false, -1);
        Due.due("the oldest", x.age(1, 9999), 199);
        Due.due("the oldest on day 0", x.age(1, 0), 99);
    }

    private static void promise6Dies() {
        TenForOne x = withMan(100);
        Due.due("who 1", x.dies(1, 100), BAD);
        Due.due("who -1", x.dies(-1, 100), BAD);
        Due.due("day -1", x.dies(0, -1), BAD);
        Due.due("day 10000", x.dies(0, 10000), BAD);
        Due.due("ahead of birth", x.dies(0, 99), NOT);
        Due.due("still lives", x.told(0, 5), NONE);
        Due.due("on the day of birth", x.dies(0, 100), 0);
        Due.due("twice", x.dies(0, 101), NOT);
        Due.due("the first death holds", x.told(0, 5), 100);
        x = withMan(-2000);
        x.flees(0, 10);
        Due.due("on the day of flight", x.dies(0, 10), NOT);
        x.back(0, 12);
        Due.due("on the day of coming back", x.dies(0, 12), NOT);
        Due.due("behind it", x.dies(0, 13), 0);
        x = withMan(-2000);
        x.flees(0, 10);
        Due.due("away, behind the flight", x.dies(0, 11), 0);
    }

    private static void promise7Flees() {
        TenForOne x = withMan(5);
        Due.due("who 1", x.flees(1, 5), BAD);
        Due.due("day -1", x.flees(0, -1), BAD);
        Due.due("day 10000", x.flees(0, 10000), BAD);
        Due.due("ahead of birth", x.flees(0, 4), NOT);
        Due.due("on the day of birth", x.flees(0, 5), 1);
        Due.due("away", x.flees(0, 9), NOT);
        x.back(0, 8);
        Due.due("on the day of coming back", x.flees(0, 8), NOT);
        Due.due("ahead of coming back", x.flees(0, 7), NOT);
        Due.due("behind it", x.flees(0, 9), 1);
        x.back(0, 20);
        x.dies(0, 30);
        Due.due("dead", x.flees(0, 31), NOT);
        Due.due("dead later", x.flees(0, 25), NOT);
        x = withMan(-1);
        Due.due("day 0", x.flees(0, 0), 1);
    }

    private static void promise8Back() {
        TenForOne x = withMan(0);
        Due.due("never away", x.back(0, 5), NOT);
        x.flees(0, 10);
        Due.due("who 1", x.back(1, 11), BAD);
        Due.due("day -1", x.back(0, -1), BAD);
        Due.due("day 10000", x.back(0, 10000), BAD);
        Due.due("ahead of the flight", x.back(0, 9), NOT);
        Due.due("on the day of flight", x.back(0, 10), NOT);
        Due.due("a day away", x.back(0, 11), 1);
        Due.due("twice", x.back(0, 12), NOT);
        x.flees(0, 100);
        Due.due("long away", x.back(0, 9999), 9899);
        x = withMan(0);
        x.flees(0, 10);
        x.dies(0, 20);
        Due.due("dead", x.back(0, 21), NOT);
        Due.due("dead later", x.back(0, 15), NOT);
    }

    private static void promise9There() {
        TenForOne x = withMan(100);
        Due.due("who 1", x.there(1, 0), BAD);
        Due.due("who -1", x.there(-1, 0), BAD);
        Due.due("day -1", x.there(0, -1), BAD);
        Due.due("day 10000", x.there(0, 10000), BAD);
        x.flees(0, 200);
        x.back(0, 210);
        x.flees(0, 220);
        x.back(0, 221);
        x.dies(0, 230);
        int[] days = {99, 0, 100, 1, 199, 1, 200, 0, 209, 0, 210, 1, 219, 1, 220, 0, 221, 1, 230, 1, 231, 0, 9999, 0};
        for (int i = 0; i < days.length; i += 2) {
            Due.due("there(0, " + days[i] + ")", x.there(0, days[i]), days[i + 1]);
        }
        x = withMan(0);
        x.flees(0, 10);
        x.dies(0, 20);
        Due.due("dies while away", x.there(0, 20), 0);
        Due.due("ahead of that flight", x.there(0, 9), 1);
    }

    private static void promise10Kin() {
        TenForOne x = withHouse();
        x.person(0, -5000, 0, 0, false, -1);
        x.person(0, -3000, 0, 0, false, 0);
        x.person(0, -3000, 0, 0, false, 0);
        x.person(0, -1000, 0, 0, false, 1);
        x.person(0, -1000, 0, 0, false, -1);
        x.person(0, -1000, 0, 0, false, -1);
        int[][] due = {
            {BAD, 1, 1, 0, 0, 0}, {1, BAD, 1, 1, 0, 0}, {1, 1, BAD, 0, 0, 0},
            {0, 1, 0, BAD, 0, 0}, {0, 0, 0, 0, BAD, 0}, {0, 0, 0, 0, 0, BAD}
        };
        for (int a = 0; a < 6; a++) {
            for (int b = 0; b < 6; b++) {
                Due.due("kin(" + a + ", " + b + ")", x.kin(a, b), due[a][b]);
            }
        }
        Due.due("kin(6, 0)", x.kin(6, 0), BAD);
        Due.due("kin(0, -1)", x.kin(0, -1), BAD);
    }
}
