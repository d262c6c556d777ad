/** Edges that section 2 of the document names, beside those of GroupsTest, WholeTest, NumbersTest and RefusalsTest. */
final class Edges2GroupsTest {
    private static final int BAD = TenForOne.BAD, NOT = TenForOne.NOT, FULL = TenForOne.FULL, NONE = TenForOne.NONE;

    private Edges2GroupsTest() {
    }

    public static void main(String[] args) {
        spellsOneBehindTheOther();
        membersIfTheyAreThere();
        unswornAndIdle();
        unswornNobodyAndAll();
        headAtTheEdges();
        staysOfEach();
        staysOfOneDay();
        lastStayAndLastFair();
        fairsBothEnds();
        hostsOfTheHouse();
        sixIntoGroups();
        likeWaysAndSoOn();
        farthest();
        tenThen();
        poorAndRich();
        poorOfAnEarlierTime();
        kinAhead();
        whoMayCome();
        cameByTheLatest();
        Due.end();
    }

    private static TenForOne withGroup(int men) {
        return Twins.made(x -> Villages.group(x, men));
    }

    /** "for DAYS from that of joining to ahead of leaving; spells of one come one behind the other". */
    private static void spellsOneBehindTheOther() {
        TenForOne x = withGroup(0);
        Villages.men(x, 1);
        Due.due("joins on the first day", x.joins(0, 0, 0), 1);
        Due.due("leaves a day later", x.leaves(0, 1), 0);
        Due.due("joins that very day", x.joins(0, 1, 1), 1);
        Due.due("leaves on the last day", x.leaves(0, 9999), 1);
        Due.due("joins on the last day", x.joins(0, 0, 9999), 1);
        Due.due("no later day to leave on", x.leaves(0, 9999), NOT);
        int[] due = {0, 0, 1, 1, 9998, 1, 9999, 0};
        for (int i = 0; i < due.length; i += 2) {
            Due.due("groupOf on " + due[i], x.groupOf(0, due[i]), due[i + 1]);
            Due.due("members of 0 on " + due[i], x.members(0, due[i]), 1 - due[i + 1]);
            Due.due("members of 1 on " + due[i], x.members(1, due[i]), due[i + 1]);
        }
    }

    /** "MEMBERS on a DAY: those, if they are THERE". */
    private static void membersIfTheyAreThere() {
        TenForOne x = withGroup(3);
        x.flees(0, 10);
        x.back(0, 12);
        x.dies(1, 11);
        int[] due = {4, 0, 5, 3, 9, 3, 10, 2, 11, 2, 12, 2, 13, 2};
        for (int i = 0; i < due.length; i += 2) {
            Due.due("members on " + due[i], x.members(0, due[i]), due[i + 1]);
        }
        Due.due("on the day of death", x.groupOf(1, 11), 0);
        Due.due("a day behind it", x.groupOf(1, 12), NONE);
        Due.due("on the day of coming back", x.groupOf(0, 12), 0);
        Due.due("joins counts those who are there", x.joins(x.person(0, -2000, 0, 0, false, -1), 0, 10), 3);
        Due.due("one who was a member while away may leave", x.leaves(0, 11), 0);
        Due.due("and is none, back", x.groupOf(0, 12), NONE);
    }

    /** "UNSWORN on a DAY: who MUST BE SWORN, and is MEMBER of none. IDLE: a MEMBER who need not be." */
    private static void unswornAndIdle() {
        TenForOne x = withGroup(2);
        Villages.men(x, 2);
        x.person(0, -1101, 0, 0, false, -1);
        x.joins(4, 1, 5);
        x.flees(0, 10);
        x.flees(2, 10);
        x.dies(3, 10);
        x.leaves(1, 20);
        int[][] unsworn = {{4, 4}, {5, 2}, {9, 2}, {10, 1}, {11, 0}, {19, 0}, {20, 1}, {4099, 1}, {4100, 0}};
        for (int[] row : unsworn) {
            Due.due("unsworn on " + row[0], x.wants(row[0], 0), row[1]);
            Due.due("the last of them on " + row[0], x.wantsAt(row[0], 0, row[1] - 1) >= 0 ? 1 : 0, row[1] > 0 ? 1 : 0);
            Due.due("none behind them on " + row[0], x.wantsAt(row[0], 0, row[1]), BAD);
        }
        int[][] idle = {{4, 0}, {5, 1}, {98, 1}, {99, 0}, {4998, 0}, {4999, 1}, {9999, 1}};
        for (int[] row : idle) {
            Due.due("idle on " + row[0], x.wants(row[0], 1), row[1]);
            Due.due("who is idle on " + row[0], x.wantsAt(row[0], 1, 0), row[1] > 0 ? 4 : BAD);
        }
    }

    private static void unswornNobodyAndAll() {
        TenForOne x = new TenForOne();
        Due.due("nobody: unsworn", x.wants(0, 0), 0);
        Due.due("nobody: idle", x.wants(0, 1), 0);
        Due.due("nobody: the first", x.wantsAt(0, 0, 0), BAD);
        x.house(0);
        Villages.men(x, 48);
        Due.due("all: unsworn", x.wants(0, 0), 48);
        Due.due("all: the last", x.wantsAt(0, 0, 47), 47);
        Due.due("all: one behind", x.wantsAt(0, 0, 48), BAD);
        x.group(0);
        for (int i = 0; i < 10; i++) {
            x.joins(i, 0, 0);
        }
        Due.lawsOf(x, "s1");
        Due.due("none must: unsworn", x.wants(0, 0), 0);
        Due.due("none must: idle", x.wants(0, 1), 10);
        Due.due("none must: the tenth", x.wantsAt(0, 1, 9), 9);
        Due.due("none must: the eleventh", x.wantsAt(0, 1, 10), BAD);
    }

    /** "THE HEAD ...: of its MEMBERS the one who JOINED first (of like DAYS the least number)". */
    private static void headAtTheEdges() {
        TenForOne x = withGroup(0);
        Villages.men(x, 4);
        x.joins(3, 0, 9999);
        Due.due("joined on the last day", x.head(0, 9999), 3);
        x.joins(2, 0, 9998);
        Due.due("a day ahead of him, told later", x.head(0, 9999), 2);
        x.joins(1, 0, 0);
        x.joins(0, 0, 1);
        Due.due("on the first day", x.head(0, 0), 1);
        Due.due("a less number a day later", x.head(0, 1), 1);
        x.leaves(1, 2);
        Due.due("the day that he leaves on", x.head(0, 2), 0);
        x.dies(0, 3);
        Due.due("the day of death", x.head(0, 3), 0);
        Due.due("nobody is left", x.head(0, 4), NONE);
        Due.due("the other group has none", x.head(1, 1), NONE);
    }

    private static TenForOne withLodgers() {
        TenForOne x = new TenForOne();
        Villages.houses(x, 3);
        Villages.groups(x, 3);
        for (int house = 0; house < 3; house++) {
            x.person(0, -2000, 0, house, false, -1);
            x.joins(house, house, 0);
        }
        x.person(3, -2000, 0, 0, false, -1);
        x.person(3, -2000, 0, 0, false, -1);
        return x;
    }

    /** "STAYS: a STRANGER lodges in a HOUSE from a DAY to a DAY": each of his own, each by its own days. */
    private static void staysOfEach() {
        TenForOne x = withLodgers();
        Due.due("the first's", x.stay(3, 0, 10, 19), 0);
        Due.due("the other's, those days", x.stay(4, 1, 10, 19), 1);
        Due.due("the first's second", x.stay(3, 2, 20, 29), 2);
        Due.due("the first lodges in 0", x.charged(3, 19), 0);
        Due.due("the other lodges in 1", x.charged(4, 12), 1);
        Due.due("two nights of the second stay", x.charged(3, 21), NONE);
        Due.due("three nights of it", x.charged(3, 22), 2);
        Due.due("the other lodges no more", x.charged(4, 20), NONE);
        Due.due("nor the first, behind both", x.charged(3, 30), NONE);
        Due.due("another's stay does not hinder", x.stay(4, 0, 20, 20), 3);
    }

    private static void staysOfOneDay() {
        TenForOne x = withLodgers();
        Due.due("the first day", x.stay(3, 0, 0, 0), 0);
        Due.due("the next", x.stay(3, 1, 1, 1), 1);
        Due.due("the last day", x.stay(3, 2, 9999, 9999), 2);
        Due.lawsOf(x, "s1");
        int[] due = {0, 0, 1, 1, 2, NONE, 9998, NONE, 9999, 2};
        for (int i = 0; i < due.length; i += 2) {
            Due.due("one night, on " + due[i], x.charged(3, due[i]), due[i + 1]);
        }
        Due.lawsOf(x, "s2");
        Due.due("two nights are not to be had", x.charged(3, 0), NONE);
        Due.due("nights of two stays are not one's", x.charged(3, 1), NONE);
    }

    /** STAYS 0 .. 19 and FAIRS, 9 at most: the last of them count as the first. */
    private static void lastStayAndLastFair() {
        TenForOne x = withLodgers();
        for (int i = 0; i < 19; i++) {
            x.stay(3, 0, i, i);
        }
        Due.due("the twentieth stay", x.stay(4, 2, 10, 40), 19);
        Due.due("the twentieth counts", x.charged(4, 12), 2);
        for (int i = 0; i < 8; i++) {
            x.fair(100, 100);
        }
        Due.due("the ninth fair", x.fair(12, 20), 8);
        Due.due("the ninth counts", x.charged(4, 20), NONE);
        Due.due("a day behind it", x.charged(4, 21), 2);
        Due.due("a tenth", x.fair(10, 40), FULL);
        Due.due("the tenth does not count", x.charged(4, 21), 2);
    }

    /** "of the DAYS of that STAY ahead of it, and it, as many as NIGHTS or more are in no FAIR". */
    private static void fairsBothEnds() {
        TenForOne x = withLodgers();
        x.stay(3, 0, 10, 30);
        x.fair(0, 9);
        Due.due("a fair ahead of the stay", x.charged(3, 12), 0);
        x.fair(13, 30);
        Due.due("a fair behind the third night", x.charged(3, 12), 0);
        Due.due("the nights stay, in a fair", x.charged(3, 30), 0);
        x.fair(12, 12);
        Due.due("a fair of that day alone", x.charged(3, 12), NONE);
        Due.due("and no night behind", x.charged(3, 30), NONE);
        x = withLodgers();
        x.stay(3, 0, 10, 30);
        x.fair(10, 10);
        Due.due("a fair of the first day alone", x.charged(3, 12), NONE);
        Due.due("a day more", x.charged(3, 13), 0);
        x.fair(11, 12);
        Due.due("two days more", x.charged(3, 14), NONE);
        Due.due("three", x.charged(3, 15), 0);
        x.fair(15, 29);
        Due.due("all days but the last", x.charged(3, 29), NONE);
        Due.due("the last day", x.charged(3, 30), 0);
        x.fair(30, 30);
        Due.due("not the last", x.charged(3, 30), NONE);
    }

    /** "the GROUP of which the least numbered MEMBER whose HOUSE that is, is (of that DAY; none: none)". */
    private static void hostsOfTheHouse() {
        TenForOne x = new TenForOne();
        Villages.houses(x, 2);
        Villages.groups(x, 3);
        x.person(0, -2000, 0, 0, false, -1);
        x.person(0, -2000, 0, 0, false, -1);
        x.person(0, -2000, 0, 1, false, -1);
        x.person(3, -2000, 0, 1, false, -1);
        x.stay(3, 0, 0, 100);
        x.joins(2, 2, 0);
        Due.due("the host is a member of none", x.charged(3, 10), NONE);
        x.joins(1, 1, 11);
        Due.due("a day ahead of joining", x.charged(3, 10), NONE);
        Due.due("on the day of joining", x.charged(3, 11), 1);
        x.joins(0, 0, 20);
        Due.due("ahead of the least numbered", x.charged(3, 19), 1);
        Due.due("the least numbered, who joined last", x.charged(3, 20), 0);
        x.leaves(0, 30);
        Due.due("the day ahead of leaving", x.charged(3, 29), 0);
        Due.due("the day of leaving", x.charged(3, 30), 1);
        x.dies(1, 40);
        Due.due("the day of death", x.charged(3, 40), 1);
        Due.due("the day behind", x.charged(3, 41), NONE);
    }

    /** Lanes 0, 10, .. 70, a house and a group in each. */
    private static TenForOne withLanes() {
        TenForOne x = new TenForOne();
        for (int i = 0; i < 8; i++) {
            x.house(10 * i);
            x.group(10 * i);
        }
        return x;
    }

    /** "6 at most": six come each into a group of his own lane, the first and the last of 8 among them. */
    private static void sixIntoGroups() {
        int[] houses = {7, 0, 5, 2, 6, 7};
        TenForOne x = withLanes();
        for (int house : houses) {
            x.person(0, -2000, 0, house, false, -1);
        }
        Due.due("six", x.whole(0), 30);
        for (int who = 0; who < 6; who++) {
            Due.due("came(" + who + ")", x.came(who), houses[who]);
            Due.due("groupOf(" + who + ")", x.groupOf(who, 0), houses[who]);
        }
        x = withLanes();
        for (int i = 0; i < 6; i++) {
            x.person(i % 2, -2000, 0, 0, false, -1);
        }
        Due.lawsOf(x, "m0-99;c0-99");
        Due.due("men and clerks, six", x.whole(0), 30);
        x.person(1, -2000, 0, 0, false, -1);
        Due.due("the seventh comes alone later", x.whole(0), 5);
        Due.due("seven members", x.members(0, 0), 7);
    }

    /** "Of like ones the first by the GROUPS of the least numbered one, and so on." */
    private static void likeWaysAndSoOn() {
        TenForOne x = Villages.at(50, 40, 60);
        for (int i = 0; i < 8; i++) {
            x.person(0, -2000, 0, 0, false, -1);
            x.joins(i, 0, 0);
        }
        Villages.men(x, 4);
        Due.due("room for two of four", x.whole(0), 60);
        for (int who = 8; who < 12; who++) {
            Due.due("like ways: came(" + who + ")", x.came(who), who < 10 ? 0 : 1);
        }
        x = new TenForOne();
        x.house(50);
        x.house(49);
        x.group(60);
        x.group(40);
        for (int i = 0; i < 9; i++) {
            x.person(0, -2000, 0, 0, false, -1);
            x.joins(i, 1, 0);
        }
        x.person(0, -2000, 0, 0, false, -1);
        x.person(0, -2000, 0, 1, false, -1);
        Due.due("the least goes ahead of the first by groups", x.whole(0), 15 + 14);
        Due.due("the least numbered", x.came(9), 0);
        Due.due("the other, for whom it is near", x.came(10), 1);
        x = Villages.at(50, 50, 50);
        for (int i = 0; i < 3; i++) {
            x.person(0, -2000, 0, 0, i != 2, -1);
        }
        Due.due("two poor ones and a rich one", x.whole(0), 15);
        for (int who = 0; who < 3; who++) {
            Due.due("all into the first: came(" + who + ")", x.came(who), 0);
        }
    }

    /** "the difference of the LANES of his HOUSE and the GROUP, and 5": the most and the least that can be. */
    private static void farthest() {
        TenForOne x = Villages.at(0, 99);
        Villages.men(x, 6);
        Due.due("six go all the way", x.whole(0), 6 * 104);
        x = Villages.at(99, 0);
        Villages.men(x, 1);
        Due.due("one, the other way", x.whole(0), 104);
        x = Villages.at(33, 33);
        x.person(0, -5000, 0, 0, false, -1);
        x.person(0, -2000, 0, 0, false, 0);
        x.joins(0, 0, 0);
        Due.due("to one's kin next door", x.whole(0), 0);
        Due.due("and came all the same", x.came(1), 0);
    }

    /** "a GROUP, of ten MEMBERS then at most". */
    private static void tenThen() {
        TenForOne x = withGroup(9);
        Villages.men(x, 1);
        Due.due("the tenth", x.whole(5), 5);
        Due.due("ten", x.members(0, 5), 10);
        x = Villages.at(50, 50);
        Villages.men(x, 10);
        for (int i = 0; i < 10; i++) {
            x.joins(i, 0, 5);
        }
        Villages.men(x, 1);
        Due.due("an eleventh", x.whole(5), NONE);
        x.flees(0, 6);
        Due.due("one is away", x.whole(6), 5);
        x.back(0, 7);
        Due.due("eleven", x.members(0, 7), 11);
        Due.due("nobody comes, eleven or not", x.whole(7), 0);
        Villages.men(x, 1);
        Due.due("no room in eleven", x.whole(7), NONE);
        x.group(99);
        Due.due("another group", x.whole(7), 54);
        Due.due("eleven still", x.members(0, 7), 11);
        x = withGroup(10);
        x.leaves(0, 20);
        Villages.men(x, 1);
        Due.due("ten on the day ahead of leaving", x.whole(19), 5);
        Due.due("into the second", x.came(10), 1);
        x = withGroup(4);
        Villages.men(x, 6);
        Due.due("four and six", x.whole(5), 30);
        Due.due("are ten", x.members(0, 5), 10);
        x = withGroup(10);
        Villages.men(x, 6);
        Due.due("ten, and six who go by", x.whole(5), 30);
        Due.due("ten still", x.members(0, 5), 10);
        Due.due("six in the second", x.members(1, 5), 6);
        x = Villages.at(50, 50);
        Villages.men(x, 5);
        for (int i = 0; i < 5; i++) {
            x.joins(i, 0, 5);
        }
        Villages.men(x, 6);
        Due.due("five and six", x.whole(5), NONE);
        Due.due("stay five", x.members(0, 5), 5);
    }

    /** "none of POOR ones alone (of those that some came into)". */
    private static void poorAndRich() {
        TenForOne x = new TenForOne();
        x.house(0);
        x.house(99);
        x.group(0);
        x.group(99);
        x.person(0, -2000, 0, 1, false, -1);
        x.joins(0, 1, 0);
        x.person(0, -2000, 0, 0, true, -1);
        Due.due("a poor one goes to the rich one", x.whole(0), 104);
        x.person(0, -2000, 0, 0, true, -1);
        x.person(0, -2000, 0, 0, false, -1);
        Due.due("a poor one and a rich one of his lane", x.whole(0), 10);
        Due.due("into the near group", x.came(2), 0);
        x.dies(3, 10);
        x.person(0, -2000, 0, 0, true, -1);
        Due.due("on the day of the rich one's death", x.whole(10), 5);
        x.person(0, -2000, 0, 0, true, -1);
        Due.due("the rich one is dead", x.whole(11), 104);
        x = Villages.at(0, 0);
        x.person(0, -2000, 0, 0, true, -1);
        x.joins(0, 0, 0);
        Due.due("a poor group, and nobody comes", x.whole(0), 0);
        x.person(0, -2000, 0, 0, false, -1);
        Due.due("a rich one comes to the poor", x.whole(0), 5);
        x.person(0, -2000, 0, 0, true, -1);
        Due.due("and a poor one to both", x.whole(0), 5);
    }

    private static void poorOfAnEarlierTime() {
        TenForOne x = Villages.at(0, 0, 10);
        x.person(0, -2000, 0, 0, false, -1);
        x.person(0, -2000, 0, 0, true, -1);
        Due.due("a rich one and a poor one", x.whole(0), 10);
        x.leaves(0, 10);
        x.leaves(1, 10);
        Due.due("once more", x.whole(10), 10);
        x.dies(0, 10);
        x.dies(1, 10);
        x.person(0, -2000, 0, 0, true, -1);
        Due.due("a poor one alone", x.whole(11), NONE);
        x.dies(2, 0);
        x.person(0, -2000, 0, 0, false, -1);
        Due.due("a rich one alone", x.whole(11), 5);
        x = Villages.at(0, 0);
        for (int i = 0; i < 6; i++) {
            x.person(0, -2000, 0, 0, i < 5, -1);
        }
        Due.due("five poor ones and the sixth", x.whole(0), 30);
        for (int i = 0; i < 6; i++) {
            x.dies(i, 0);
        }
        x.person(0, -2000, 0, 0, false, -1);
        Due.due("a rich one, where a poor one was", x.whole(1), 5);
    }

    /** House 0 at lane 50; a father in the second of two groups, and his son in none. */
    private static TenForOne fatherInTheSecond(int firstLane, int secondLane) {
        TenForOne x = Villages.at(50, firstLane, secondLane);
        x.person(0, -5000, 0, 0, false, -1);
        x.person(0, -2000, 0, 0, false, 0);
        x.joins(0, 1, 0);
        return x;
    }

    /** "5, if he has no KIN among its MEMBERS (of that DAY, ahead of all that)". */
    private static void kinAhead() {
        TenForOne x = fatherInTheSecond(45, 59);
        x.leaves(0, 20);
        Due.due("kin on the day ahead of leaving", x.whole(19), 9);
        Due.due("to his kin", x.came(1), 1);
        x = fatherInTheSecond(45, 60);
        Due.due("like ways, with kin and without", x.whole(0), 10);
        Due.due("the first group", x.came(1), 0);
        x = fatherInTheSecond(45, 59);
        x.dies(0, 20);
        Due.due("kin who is dead", x.whole(21), 10);
        Due.due("to the near group", x.came(1), 0);
    }

    /** "each UNSWORN MAN, CLERK (not CHIEF's kin; none of whom a spell goes on, or ends behind that DAY ...)". */
    private static void whoMayCome() {
        TenForOne x = withGroup(0);
        x.group(50);
        Villages.men(x, 9);
        x.joins(0, 1, 10);
        x.joins(1, 1, 10);
        x.leaves(1, 20);
        x.flees(2, 5);
        x.dies(3, 4);
        Due.due("five of nine", x.whole(5), 25);
        int[] due = {NONE, NONE, NONE, NONE, 0, 0, 0, 0, 0};
        for (int who = 0; who < due.length; who++) {
            Due.due("five: came(" + who + ")", x.came(who), due[who]);
        }
        Due.due("a spell ends a day behind", x.whole(19), 0);
        Due.due("a spell ends that day", x.whole(20), 5);
        Due.due("he came", x.came(1), 0);
        x.back(2, 30);
        Due.due("away till the day behind", x.whole(29), 0);
        Due.due("back that day", x.whole(30), 5);
    }

    /** "Into which GROUP one came by the latest whole() that told what is ASKED; NONE: not by it." */
    private static void cameByTheLatest() {
        TenForOne x = withGroup(1);
        Due.due("one who joined", x.came(0), NONE);
        Villages.men(x, 1);
        x.whole(5);
        Due.due("one who came", x.came(1), 0);
        x.leaves(1, 6);
        x.joins(1, 1, 6);
        Due.due("one who came, and joined another", x.came(1), 0);
        Villages.men(x, 1);
        Due.due("one who is new", x.came(2), NONE);
        x.whole(7);
        Due.due("by an earlier one", x.came(1), NONE);
        Due.due("by the latest", x.came(2), 0);
        Due.due("with nobody to come", x.whole(7), 0);
        Due.due("not by that", x.came(2), NONE);
    }
}
