/**
 * Each refusal but those of NumbersTest: its answer, and that it changed nothing; and where two refusals meet, that the
 * one which the document puts first is answered.
 */
final class RefusalsTest {
    private static final int BAD = TenForOne.BAD, NOT = TenForOne.NOT, FULL = TenForOne.FULL, NONE = TenForOne.NONE,
        NULL = TenForOne.NULL, CAST = TenForOne.CAST, INDEX = TenForOne.INDEX, SIZE = TenForOne.SIZE;
    private static final long BLANKS = 0x2020202020202020L;

    private RefusalsTest() {
    }

    public static void main(String[] args) {
        promise2House();
        promise3Person();
        promises4And5ToldAndAge();
        promise6Dies();
        promise7Flees();
        promise8Back();
        promise10Kin();
        promise11Type();
        promise12Laws();
        promise13Must();
        promise14Fair();
        promise15Group();
        promise16Joins();
        promise16Ten();
        promise17Leaves();
        promises18And20Nobody();
        promise23Stay();
        promise24Charged();
        promise25Whole();
        promise27Plea();
        promise27Twenty();
        promise31Pays();
        promise34Sheet();
        promise35And36Sheets();
        promise37Roll();
        promises38And39NoRoll();
        Due.end();
    }

    private static void busy(String told, int due, Twins.Call call) {
        Twins.refused(told, Villages::busy, due, call);
    }

    /** What is made first, then more, in one making. */
    private static Twins.Making busyAnd(Twins.Making more) {
        return x -> {
            Villages.busy(x);
            more.of(x);
        };
    }

    private static void promise2House() {
        // One who is of age on the last day, so that the lane of the last house shows in what is asked.
        Twins.Making full = x -> {
            Villages.houses(x, 20);
            x.group(50);
            x.person(0, 8000, 0, 19, false, -1);
        };
        Twins.refused("house 20", full, FULL, x -> x.house(0));
        Twins.refused("house: BAD ahead of FULL, below", full, BAD, x -> x.house(-1));
        Twins.refused("house: BAD ahead of FULL, above", full, BAD, x -> x.house(100));
        Due.due("house 19 is the last", Twins.made(x -> Villages.houses(x, 19)).house(0), 19);
    }

    private static void promise3Person() {
        Twins.Making full = x -> {
            Villages.houses(x, 1);
            Villages.men(x, 48);
        };
        Twins.refused("person 48", full, FULL, x -> x.person(0, 0, 0, 0, false, -1));
        Twins.refused("person 48 with a father", full, FULL, x -> x.person(0, -800, 0, 0, false, 47));
        Twins.refused("person: BAD ahead of FULL, kind", full, BAD, x -> x.person(4, 0, 0, 0, false, -1));
        Twins.refused("person: BAD ahead of FULL, born", full, BAD, x -> x.person(0, 10000, 0, 0, false, -1));
        Twins.refused("person: BAD ahead of FULL, name", full, BAD, x -> x.person(0, 0, 40, 0, false, -1));
        Twins.refused("person: BAD ahead of FULL, house", full, BAD, x -> x.person(0, 0, 0, 1, false, -1));
        Twins.refused("person: BAD ahead of FULL, father", full, BAD, x -> x.person(0, 0, 0, 0, false, 48));
        Twins.refused("person: BAD ahead of FULL, a young father", full, BAD, x -> x.person(0, -801, 0, 0, false, 0));
        busy("a father who is a stranger", BAD, x -> x.person(0, 9999, 0, 0, false, 4));
        busy("a father BORN 1199 days ahead", BAD, x -> x.person(0, -1801, 0, 0, false, 0));
        Due.due("a father BORN 1200 days ahead", Twins.made(Villages::busy).person(0, -1800, 0, 0, false, 0), 9);
        busy("a father BORN later", BAD, x -> x.person(0, -9999, 0, 0, false, 0));
    }

    private static void promises4And5ToldAndAge() {
        busy("told: no father", NONE, x -> x.told(0, 4));
        busy("told: not dead", NONE, x -> x.told(0, 5));
        busy("age: a day ahead of BORN", NONE, x -> x.age(7, 4999));
        busy("age: BAD ahead of NONE", BAD, x -> x.age(7, -1));
    }

    private static void promise6Dies() {
        busy("dies: dead", NOT, x -> x.dies(8, 51));
        busy("dies: dead on that day", NOT, x -> x.dies(8, 50));
        busy("dies: dead later", NOT, x -> x.dies(8, 49));
        busy("dies: a day ahead of BORN", NOT, x -> x.dies(7, 4999));
        busy("dies: on the day of coming back", NOT, x -> x.dies(2, 70));
        busy("dies: ahead of coming back", NOT, x -> x.dies(2, 65));
        busy("dies: ahead of the flight", NOT, x -> x.dies(2, 59));
        busy("dies: away, on the day of flight", NOT, x -> x.dies(5, 20));
        busy("dies: away, ahead of the flight", NOT, x -> x.dies(5, 19));
        Twins.Making debtor = busyAnd(x -> {
            x.flees(0, 100);
            x.back(0, 110);
        });
        Twins.refused("dies: one who owes, on the day of coming back", debtor, NOT, x -> x.dies(0, 110));
        Twins.refused("dies: one who owes, and a day that is none", debtor, BAD, x -> x.dies(0, 10000));
        Due.due("dies: one who owes, a day behind", Twins.made(debtor).dies(0, 111), 70);
        busy("dies: BAD ahead of NOT, above", BAD, x -> x.dies(8, 10000));
        busy("dies: BAD ahead of NOT, below", BAD, x -> x.dies(7, -1));
        Due.due("dies: a day behind coming back", Twins.made(Villages::busy).dies(2, 71), 0);
        Due.due("dies: away, a day behind the flight", Twins.made(Villages::busy).dies(5, 21), 0);
        Due.due("dies: on the day BORN", Twins.made(Villages::busy).dies(7, 5000), 0);
    }

    private static void promise7Flees() {
        busy("flees: dead", NOT, x -> x.flees(8, 51));
        busy("flees: dead on that day", NOT, x -> x.flees(8, 50));
        busy("flees: dead later", NOT, x -> x.flees(8, 40));
        busy("flees: away", NOT, x -> x.flees(5, 21));
        busy("flees: away later", NOT, x -> x.flees(5, 19));
        busy("flees: on the day of coming back", NOT, x -> x.flees(2, 70));
        busy("flees: between flight and coming back", NOT, x -> x.flees(2, 65));
        busy("flees: ahead of the earlier flight", NOT, x -> x.flees(2, 59));
        busy("flees: a day ahead of BORN", NOT, x -> x.flees(7, 4999));
        busy("flees: BAD ahead of NOT, above", BAD, x -> x.flees(5, 10000));
        busy("flees: BAD ahead of NOT, below", BAD, x -> x.flees(7, -1));
        Due.due("flees: a day behind coming back", Twins.made(Villages::busy).flees(2, 71), 1);
        Due.due("flees: on the day BORN", Twins.made(Villages::busy).flees(7, 5000), 1);
    }

    private static void promise8Back() {
        Twins.Making deadAway = busyAnd(x -> x.dies(5, 80));
        busy("back: never away", NOT, x -> x.back(0, 100));
        busy("back: back already", NOT, x -> x.back(2, 71));
        busy("back: back already, between flight and coming back", NOT, x -> x.back(2, 65));
        busy("back: on the day of flight", NOT, x -> x.back(5, 20));
        busy("back: a day ahead of the flight", NOT, x -> x.back(5, 19));
        Twins.refused("back: dead", deadAway, NOT, x -> x.back(5, 81));
        Twins.refused("back: dead on that day", deadAway, NOT, x -> x.back(5, 80));
        Twins.refused("back: dead later", deadAway, NOT, x -> x.back(5, 79));
        busy("back: BAD ahead of NOT, above", BAD, x -> x.back(0, 10000));
        busy("back: BAD ahead of NOT, below", BAD, x -> x.back(5, -1));
        Due.due("back: a day behind the flight", Twins.made(Villages::busy).back(5, 21), 1);
    }

    private static void promise10Kin() {
        busy("kin: one and the same", BAD, x -> x.kin(1, 1));
        busy("kin: one and the same, who has no father", BAD, x -> x.kin(0, 0));
        busy("kin: the last", BAD, x -> x.kin(8, 8));
    }

    private static void promise11Type() {
        Twins.Making full = x -> {
            for (int i = 0; i < 5; i++) {
                x.type(BLANKS, 8);
            }
        };
        Twins.Making oneLess = x -> {
            full.of(x);
            x.laws();
            Due.typed(x, "m1-2;m1-2;m1-2;m1-2                    ");
        };
        Twins.refused("type: 41 bytes", full, FULL, x -> x.type(' ', 1));
        Twins.refused("type: 48 bytes", full, FULL, x -> x.type(BLANKS, 8));
        Twins.refused("type: 39 and 2", oneLess, FULL, x -> x.type(BLANKS, 2));
        Twins.refused("type: 39 and 8", oneLess, FULL, x -> x.type(BLANKS, 8));
        Due.due("type: 39 and 1", Twins.made(oneLess).type(' ', 1), 40);
        Twins.refused("type: BAD ahead of FULL, n below", full, BAD, x -> x.type(BLANKS, 0));
        Twins.refused("type: BAD ahead of FULL, n above", full, BAD, x -> x.type(BLANKS, 9));
        Twins.refused("type: BAD ahead of FULL, the first byte", full, BAD, x -> x.type(31L << 56 | BLANKS >>> 8, 8));
        Twins.refused("type: BAD ahead of FULL, the last byte", full, BAD, x -> x.type(BLANKS << 8 | 127, 8));
    }

    /** A FAULT empties THE TAPE, and leaves all else. */
    private static void promise12Laws() {
        TenForOne touched = Twins.made(Villages::busy);
        Due.due("laws: a fault", Due.lawsOf(touched, "0-99;c0-99;s1;x"), -20 - 15);
        TenForOne other = Twins.made(Villages::busy);
        Due.due("laws: another fault", other.laws(), -21);
        Twins.alike("laws: a fault", touched, other);
    }

    private static void promise13Must() {
        busy("must: a stranger", CAST, x -> x.must(4, 5));
        Twins.refused("must: a dead stranger", busyAnd(x -> x.dies(4, 100)), CAST, x -> x.must(4, 101));
        busy("must: BAD ahead of CAST, above", BAD, x -> x.must(4, 10000));
        busy("must: BAD ahead of CAST, below", BAD, x -> x.must(4, -1));
    }

    private static void promise14Fair() {
        Twins.Making full = busyAnd(x -> {
            for (int i = 1; i < 9; i++) {
                x.fair(100, 101);
            }
        });
        busy("fair: to a day ahead of from", BAD, x -> x.fair(11, 10));
        Twins.refused("fair 9", full, FULL, x -> x.fair(10, 30));
        Twins.refused("fair: BAD ahead of FULL, to ahead of from", full, BAD, x -> x.fair(11, 10));
        Twins.refused("fair: BAD ahead of FULL, from", full, BAD, x -> x.fair(-1, 10));
        Twins.refused("fair: BAD ahead of FULL, to", full, BAD, x -> x.fair(10, 10000));
    }

    private static void promise15Group() {
        // One who is of age on the last day, and nearest to the last group, so that its lane shows in what is asked.
        Twins.Making full = x -> {
            Villages.groups(x, 7);
            x.group(20);
            x.house(20);
            x.person(0, 8000, 0, 0, false, -1);
        };
        Twins.refused("group 8", full, FULL, x -> x.group(0));
        Twins.refused("group: BAD ahead of FULL, below", full, BAD, x -> x.group(-1));
        Twins.refused("group: BAD ahead of FULL, above", full, BAD, x -> x.group(100));
        Due.due("group 7 is the last", Twins.made(x -> Villages.groups(x, 7)).group(0), 7);
    }

    private static void promise16Joins() {
        Twins.Making left = busyAnd(x -> x.leaves(0, 100));
        busy("joins: a stranger", CAST, x -> x.joins(4, 0, 5));
        busy("joins: CAST ahead of NOT, away", CAST, x -> x.joins(4, 0, 22));
        busy("joins: BAD ahead of CAST, group", BAD, x -> x.joins(4, 2, 5));
        busy("joins: BAD ahead of CAST, day", BAD, x -> x.joins(4, 0, 10000));
        busy("joins: BAD ahead of NOT, group", BAD, x -> x.joins(0, -1, 5));
        busy("joins: BAD ahead of NOT, day", BAD, x -> x.joins(7, 0, -1));
        busy("joins: a day ahead of BORN", NOT, x -> x.joins(7, 0, 4999));
        busy("joins: a day behind death", NOT, x -> x.joins(8, 0, 51));
        busy("joins: a spell goes on", NOT, x -> x.joins(0, 1, 9999));
        busy("joins: a spell goes on, ahead of its first day", NOT, x -> x.joins(0, 1, 4));
        Twins.refused("joins: a spell ends a day behind", left, NOT, x -> x.joins(0, 1, 99));
        Twins.refused("joins: a spell ends behind, and begins behind too", left, NOT, x -> x.joins(0, 1, 4));
        Twins.Making leftAndFled = busyAnd(x -> {
            x.leaves(2, 50);
            x.leaves(5, 50);
        });
        Twins.refused("joins: on the day of flight", leftAndFled, NOT, x -> x.joins(2, 1, 60));
        Twins.refused("joins: a day ahead of coming back", leftAndFled, NOT, x -> x.joins(2, 1, 69));
        Twins.refused("joins: never back", leftAndFled, NOT, x -> x.joins(5, 1, 9999));
        Due.due("joins: the spell ends that day", Twins.made(left).joins(0, 1, 100), 4);
        Due.due("joins: on the day BORN", Twins.made(Villages::busy).joins(7, 0, 5000), 3);
        Due.due("joins: on the day of death", Twins.made(Villages::busy).joins(8, 0, 50), 3);
        Due.due("joins: a day ahead of the flight", Twins.made(leftAndFled).joins(2, 1, 59), 3);
        Due.due("joins: on the day of coming back", Twins.made(leftAndFled).joins(2, 1, 70), 3);
    }

    private static void promise16Ten() {
        Twins.Making ten = x -> {
            Villages.group(x, 12);
            x.person(3, -2000, 0, 0, false, -1);
            x.person(0, 6, 0, 0, false, -1);
        };
        Twins.refused("joins: the eleventh", ten, FULL, x -> x.joins(10, 0, 5));
        Twins.refused("joins: the eleventh, later", ten, FULL, x -> x.joins(10, 0, 9999));
        Due.due("joins: a day ahead of the ten", Twins.made(ten).joins(10, 0, 4), 1);
        Due.due("joins: another group", Twins.made(ten).joins(10, 1, 5), 1);
        Twins.refused("joins: BAD ahead of FULL, day", ten, BAD, x -> x.joins(10, 0, 10000));
        Twins.refused("joins: BAD ahead of FULL, who", ten, BAD, x -> x.joins(14, 0, 5));
        Twins.refused("joins: CAST ahead of FULL", ten, CAST, x -> x.joins(12, 0, 5));
        Twins.refused("joins: NOT ahead of FULL, not born", ten, NOT, x -> x.joins(13, 0, 5));
        Twins.refused("joins: NOT ahead of FULL, a spell goes on", ten, NOT, x -> x.joins(9, 0, 5));
    }

    private static void promise17Leaves() {
        busy("leaves: no spell", NOT, x -> x.leaves(8, 10));
        busy("leaves: a stranger", NOT, x -> x.leaves(4, 10));
        busy("leaves: on the day of joining", NOT, x -> x.leaves(0, 5));
        busy("leaves: ahead of joining", NOT, x -> x.leaves(0, 4));
        Twins.Making left = busyAnd(x -> x.leaves(0, 100));
        Twins.refused("leaves: left already", left, NOT, x -> x.leaves(0, 101));
        Twins.refused("leaves: left already, earlier", left, NOT, x -> x.leaves(0, 99));
        busy("leaves: BAD ahead of NOT, above", BAD, x -> x.leaves(8, 10000));
        busy("leaves: BAD ahead of NOT, below", BAD, x -> x.leaves(0, -1));
        Due.due("leaves: a day behind joining", Twins.made(Villages::busy).leaves(0, 6), 0);
    }

    private static void promises18And20Nobody() {
        busy("groupOf: none", NONE, x -> x.groupOf(8, 5));
        busy("groupOf: BAD ahead of NONE", BAD, x -> x.groupOf(8, 10000));
        busy("head: none", NONE, x -> x.head(0, 4));
        busy("head: BAD ahead of NONE, day", BAD, x -> x.head(0, -1));
    }

    private static void promise23Stay() {
        Twins.Making full = busyAnd(x -> {
            for (int i = 1; i < 20; i++) {
                x.stay(4, 0, 100 + i, 100 + i);
            }
        });
        busy("stay: no stranger", CAST, x -> x.stay(0, 0, 40, 50));
        busy("stay: a clerk", CAST, x -> x.stay(2, 0, 40, 50));
        busy("stay: a chief's kin", CAST, x -> x.stay(3, 0, 40, 50));
        busy("stay: another is over that day", NOT, x -> x.stay(4, 0, 30, 50));
        busy("stay: another lies behind", NOT, x -> x.stay(4, 0, 0, 9));
        busy("stay: to a day ahead of from", BAD, x -> x.stay(4, 0, 41, 40));
        busy("stay: BAD ahead of CAST, house", BAD, x -> x.stay(0, 2, 40, 50));
        busy("stay: BAD ahead of CAST, to ahead of from", BAD, x -> x.stay(0, 0, 41, 40));
        busy("stay: BAD ahead of NOT, to ahead of from", BAD, x -> x.stay(4, 0, 30, 29));
        busy("stay: BAD ahead of NOT, house", BAD, x -> x.stay(4, 2, 30, 50));
        Due.due("stay: another is over a day ahead", Twins.made(Villages::busy).stay(4, 0, 31, 31), 1);
        Twins.refused("stay 20", full, FULL, x -> x.stay(4, 1, 9990, 9999));
        Twins.refused("stay: BAD ahead of FULL", full, BAD, x -> x.stay(4, 0, 201, 200));
        Twins.refused("stay: CAST ahead of FULL", full, CAST, x -> x.stay(0, 0, 200, 210));
        Twins.refused("stay: NOT ahead of FULL", full, NOT, x -> x.stay(4, 0, 119, 210));
    }

    private static void promise24Charged() {
        busy("charged: no stranger", CAST, x -> x.charged(0, 15));
        busy("charged: a clerk", CAST, x -> x.charged(2, 15));
        busy("charged: a chief's kin", CAST, x -> x.charged(3, 15));
        busy("charged: none", NONE, x -> x.charged(4, 13));
        busy("charged: BAD ahead of CAST", BAD, x -> x.charged(0, -1));
        busy("charged: BAD ahead of NONE", BAD, x -> x.charged(4, 10000));
    }

    private static void promise25Whole() {
        Twins.Making seven = busyAnd(x -> {
            for (int i = 0; i < 7; i++) {
                x.person(0, -1800, 0, 0, true, 0);
            }
        });
        Twins.Making poor = busyAnd(x -> {
            x.dies(0, 80);
            x.leaves(2, 80);
            x.leaves(3, 80);
            x.person(0, -2000, 0, 0, true, -1);
        });
        Twins.refused("whole: seven", seven, FULL, x -> x.whole(9));
        Twins.refused("whole: BAD ahead of FULL", seven, BAD, x -> x.whole(10000));
        Twins.refused("whole: poor ones alone", poor, NONE, x -> x.whole(81));
        Twins.refused("whole: BAD ahead of NONE", poor, BAD, x -> x.whole(-1));
        Twins.Making sevenPoor = x -> {
            poor.of(x);
            for (int i = 0; i < 6; i++) {
                x.person(0, -2000, 0, 0, true, -1);
            }
        };
        Twins.refused("whole: FULL ahead of NONE", sevenPoor, FULL, x -> x.whole(81));
    }

    private static void promise27Plea() {
        busy("plea: never fled", NOT, x -> x.plea(0, 1));
        busy("plea: there is one of that flight", NOT, x -> x.plea(5, 1));
        busy("plea: there is one, of one who is back", NOT, x -> x.plea(4, 1));
        busy("plea: BAD ahead of NOT, below", BAD, x -> x.plea(5, 0));
        busy("plea: BAD ahead of NOT, above", BAD, x -> x.plea(0, 10000));
        Twins.Making noGroup = busyAnd(x -> {
            x.leaves(0, 99);
            x.flees(0, 100);
            x.flees(3, 5);
            x.flees(4, 32);
        });
        Twins.refused("plea: left a day ahead", noGroup, NOT, x -> x.plea(0, 1));
        Twins.refused("plea: joined on the day of flight", noGroup, NOT, x -> x.plea(3, 1));
        Twins.refused("plea: lodged till two days ahead", noGroup, NOT, x -> x.plea(4, 1));
        Twins.refused("plea: fled on day 0", busyAnd(x -> x.flees(3, 0)), NOT, x -> x.plea(3, 1));
        Due.due("plea: left on the day of flight", Twins.made(busyAnd(x -> {
            x.leaves(0, 100);
            x.flees(0, 100);
        })).plea(0, 1), 2);
        Due.due("plea: joined a day ahead", Twins.made(busyAnd(x -> x.flees(3, 6))).plea(3, 1), 2);
        Due.due("plea: lodged till a day ahead", Twins.made(busyAnd(x -> x.flees(4, 31))).plea(4, 1), 2);
    }

    private static void promise27Twenty() {
        Twins.Making full = x -> {
            Villages.group(x, 3);
            Villages.men(x, 2);
            for (int i = 0; i < 20; i++) {
                x.flees(0, 10 + 2 * i);
                x.plea(0, 100);
                x.back(0, 11 + 2 * i);
            }
            x.flees(2, 100);
            x.flees(3, 100);
        };
        Twins.refused("plea 20", full, FULL, x -> x.plea(2, 1));
        Twins.refused("plea: BAD ahead of FULL, fine", full, BAD, x -> x.plea(2, 10000));
        Twins.refused("plea: BAD ahead of FULL, who", full, BAD, x -> x.plea(5, 1));
        Twins.refused("plea: NOT ahead of FULL, there is one", full, NOT, x -> x.plea(0, 1));
        Twins.refused("plea: NOT ahead of FULL, never fled", full, NOT, x -> x.plea(1, 1));
        Twins.refused("plea: NOT ahead of FULL, no group", full, NOT, x -> x.plea(3, 1));
    }

    private static void promise31Pays() {
        busy("pays: owes nothing", NOT, x -> x.pays(2, 1));
        busy("pays: dead", NOT, x -> x.pays(8, 1));
        Twins.refused("pays: dead, who owed", busyAnd(x -> x.dies(0, 80)), NOT, x -> x.pays(0, 1));
        Twins.refused("pays: all is paid", busyAnd(x -> x.pays(0, 70)), NOT, x -> x.pays(0, 1));
        busy("pays: BAD ahead of NOT, below", BAD, x -> x.pays(2, 0));
        busy("pays: BAD ahead of NOT, above", BAD, x -> x.pays(8, 100000));
    }

    private static void promise34Sheet() {
        for (int sheet = 0; sheet < 4; sheet++) {
            int at = sheet;
            busy("sheet " + at + ": n -1", SIZE, x -> x.sheet(at, 1, -1));
            busy("sheet " + at + ": n least", SIZE, x -> x.sheet(at, 1, Integer.MIN_VALUE));
            busy("sheet " + at + ": n 21", BAD, x -> x.sheet(at, 1, 21));
            busy("sheet " + at + ": n greatest", BAD, x -> x.sheet(at, 1, Integer.MAX_VALUE));
            Due.due("sheet " + at + ": n 0", Twins.made(Villages::busy).sheet(at, 1, 0), 0);
            Due.due("sheet " + at + ": n 20", Twins.made(Villages::busy).sheet(at, 1, 20), 20);
        }
        busy("sheet: BAD ahead of SIZE, sheet above", BAD, x -> x.sheet(4, 0, -1));
        busy("sheet: BAD ahead of SIZE, sheet below", BAD, x -> x.sheet(-1, 0, -1));
        busy("sheet: BAD ahead of SIZE, lane above", BAD, x -> x.sheet(0, 3, -1));
        busy("sheet: BAD ahead of SIZE, lane below", BAD, x -> x.sheet(0, -1, -1));
    }

    /** In the busy village sheet 0 has 3 bytes, 1 nothing, 2 has 20 ints, 3 no shorts. */
    private static void promise35And36Sheets() {
        busy("drop: nothing", NULL, x -> x.drop(1));
        for (int lane = 0; lane < 3; lane++) {
            int as = lane;
            busy("item: nothing, lane " + as, NULL, x -> x.item(1, as, 0, 1));
            busy("item: NULL ahead of INDEX, lane " + as, NULL, x -> x.item(1, as, -1, 1));
            busy("item: bytes as lane " + as, as == 0 ? INDEX : CAST, x -> x.item(0, as, 3, 1));
            busy("item: ints as lane " + as, as == 2 ? INDEX : CAST, x -> x.item(2, as, 20, 1));
            busy("item: no shorts as lane " + as, as == 1 ? INDEX : CAST, x -> x.item(3, as, 0, 1));
        }
        busy("item: bytes as shorts", CAST, x -> x.item(0, 1, 0, 1));
        busy("item: bytes as ints", CAST, x -> x.item(0, 2, 0, 1));
        busy("item: ints as bytes", CAST, x -> x.item(2, 0, 0, 1));
        busy("item: i -1", INDEX, x -> x.item(0, 0, -1, 1));
        busy("item: i least", INDEX, x -> x.item(0, 0, Integer.MIN_VALUE, 1));
        busy("item: i greatest", INDEX, x -> x.item(0, 0, Integer.MAX_VALUE, 1));
        busy("item: BAD ahead of NULL", BAD, x -> x.item(1, 3, 0, 1));
        busy("item: BAD ahead of CAST", BAD, x -> x.item(0, -1, 0, 1));
        busy("item: BAD ahead of INDEX, sheet", BAD, x -> x.item(4, 0, -1, 1));
        busy("item: BAD ahead of INDEX, lane", BAD, x -> x.item(0, 3, 3, 1));
        Due.due("item: the last of 3", Twins.made(Villages::busy).item(0, 0, 2, 1), 1);
        Due.due("item: the last of 20", Twins.made(Villages::busy).item(2, 2, 19, 1), 1);
    }

    private static void promise37Roll() {
        Twins.Making noName = busyAnd(x -> x.item(0, 0, 2, 40));
        for (int lane = 0; lane < 3; lane++) {
            int as = lane;
            busy("roll: nothing, lane " + as, NULL, x -> x.roll(1, 8, 1, as));
        }
        busy("roll: bytes as shorts", CAST, x -> x.roll(1, 8, 0, 1));
        busy("roll: ints as shorts", CAST, x -> x.roll(1, 8, 2, 1));
        busy("roll: no shorts as ints", CAST, x -> x.roll(1, 8, 3, 2));
        Twins.refused("roll: the last item is no name", noName, NOT, x -> x.roll(1, 8, 0, 0));
        Twins.refused("roll: the first item is no name", busyAnd(x -> x.item(0, 0, 0, -1)), NOT,
            x -> x.roll(1, 8, 0, 0));
        Twins.refused("roll: the twentieth item is no name", busyAnd(x -> x.item(2, 2, 19, 40)), NOT,
            x -> x.roll(1, 8, 2, 2));
        busy("roll: BAD ahead of NULL, group", BAD, x -> x.roll(2, 8, 1, 0));
        busy("roll: BAD ahead of NULL, day", BAD, x -> x.roll(0, 10000, 1, 0));
        busy("roll: BAD ahead of NULL, lane", BAD, x -> x.roll(0, 8, 1, 3));
        busy("roll: BAD ahead of CAST, group", BAD, x -> x.roll(-1, 8, 0, 1));
        busy("roll: BAD ahead of CAST, day", BAD, x -> x.roll(0, -1, 0, 1));
        Twins.refused("roll: BAD ahead of NOT, group", noName, BAD, x -> x.roll(2, 8, 0, 0));
        Twins.refused("roll: BAD ahead of NOT, day", noName, BAD, x -> x.roll(0, 10000, 0, 0));
        Twins.refused("roll: CAST ahead of NOT", noName, CAST, x -> x.roll(0, 8, 0, 2));
    }

    private static void promises38And39NoRoll() {
        Twins.Making noRoll = x -> Villages.group(x, 2);
        Twins.refused("leftOut: no roll", noRoll, NONE, x -> x.leftOut(0));
        Twins.refused("leftOut: BAD ahead of NONE, above", noRoll, BAD, x -> x.leftOut(40));
        Twins.refused("leftOut: BAD ahead of NONE, below", noRoll, BAD, x -> x.leftOut(-1));
        Twins.refused("sure: no roll", noRoll, NONE, x -> x.sure(0));
        Twins.refused("sure: BAD ahead of NONE, above", noRoll, BAD, x -> x.sure(2));
        Twins.refused("sure: BAD ahead of NONE, below", noRoll, BAD, x -> x.sure(-1));
        busy("sure: no member then", NONE, x -> x.sure(2));
        busy("sure: it may be", NOT, x -> x.sure(0));
    }
}
