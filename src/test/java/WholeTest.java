/** Promises 25 and 26: groups are made whole, and who came into which. */
final class WholeTest {
    private static final int BAD = TenForOne.BAD, FULL = TenForOne.FULL, NONE = TenForOne.NONE;

    public static void main(String[] args) {
        wrongDays();
        nobody();
        theNearest();
        kinAskLess();
        likeOnesByTheLeast();
        tenAtMost();
        nonePoorAlone();
        whoIsLeftOut();
        atMostSix();
        cameHolds();
        Due.end();
    }

    private static TenForOne withHouses(int... lanes) {
        TenForOne x = new TenForOne();
        for (int lane : lanes) {
            x.house(lane);
        }
        return x;
    }

    private static int man(TenForOne x, int house, boolean isPoor) {
        return x.person(0, -2000, 0, house, isPoor, -1);
    }

    private static void came(String told, TenForOne x, int... groups) {
        for (int who = 0; who < groups.length; who++) {
            Due.due(told + ": came(" + who + ")", x.came(who), groups[who]);
        }
    }

    private static void wrongDays() {
        TenForOne x = new TenForOne();
        Due.due("whole(-1)", x.whole(-1), BAD);
        Due.due("whole(10000)", x.whole(10000), BAD);
        Due.due("came(0)", x.came(0), BAD);
        Due.due("came(-1)", x.came(-1), BAD);
    }

    private static void nobody() {
        TenForOne x = withHouses(50);
        Due.due("nobody, no group", x.whole(0), 0);
        man(x, 0, false);
        Due.due("one, no group", x.whole(0), NONE);
        x.group(50);
        Due.due("one, a group in his lane", x.whole(0), 5);
        Due.due("all are sworn", x.whole(0), 0);
        came("all are sworn", x, NONE);
        Due.due("he is a member", x.groupOf(0, 0), 0);
        Due.due("and stays one", x.groupOf(0, 9999), 0);
    }

    private static void theNearest() {
        TenForOne x = withHouses(0, 99, 40);
        x.group(10);
        x.group(90);
        x.group(45);
        for (int house = 0; house < 3; house++) {
            man(x, house, false);
        }
        Due.due("the nearest", x.whole(7), 10 + 9 + 5 + 15);
        came("the nearest", x, 0, 1, 2);
        for (int who = 0; who < 3; who++) {
            Due.due("ahead of that day", x.groupOf(who, 6), NONE);
            Due.due("on that day", x.groupOf(who, 7), who);
        }
    }

    private static void kinAskLess() {
        TenForOne x = withHouses(50);
        x.group(46);
        x.group(58);
        x.person(0, -5000, 0, 0, false, -1);
        x.person(0, -3000, 0, 0, false, 0);
        x.joins(0, 1, 5);
        Due.due("no kin: 4 and 5, kin: 8", x.whole(6), 8);
        came("kin", x, NONE, 1);
        x.person(0, -3000, 0, 0, false, 0);
        x.leaves(0, 10);
        Due.due("a brother is kin too", x.whole(10), 8 + 8);
        came("brothers", x, 1, NONE, 1);
        x = withHouses(50);
        x.group(50);
        x.person(0, -5000, 0, 0, false, -1);
        x.person(0, -3000, 0, 0, false, 0);
        Due.due("those who come with one are no members ahead", x.whole(6), 10);
        x = withHouses(50);
        x.group(50);
        x.person(0, -5000, 0, 0, false, -1);
        x.person(0, -3000, 0, 0, false, 0);
        x.joins(0, 0, 5);
        x.flees(0, 6);
        Due.due("kin who is away", x.whole(6), 5);
    }

    private static void likeOnesByTheLeast() {
        TenForOne x = withHouses(50);
        x.group(60);
        x.group(40);
        man(x, 0, false);
        man(x, 0, false);
        Due.due("like groups", x.whole(0), 30);
        came("like groups", x, 0, 0);
        x = withHouses(50);
        x.group(60);
        x.group(40);
        for (int i = 0; i < 9; i++) {
            x.joins(man(x, 0, false), 0, 0);
        }
        man(x, 0, false);
        man(x, 0, false);
        Due.due("room for one", x.whole(0), 30);
        Due.due("the least numbered has the first group", x.came(9), 0);
        Due.due("the other the second", x.came(10), 1);
    }

    private static void tenAtMost() {
        TenForOne x = withHouses(0);
        x.group(0);
        for (int i = 0; i < 8; i++) {
            x.joins(man(x, 0, false), 0, 0);
        }
        for (int i = 0; i < 3; i++) {
            man(x, 0, false);
        }
        Due.due("eleven", x.whole(1), NONE);
        Due.due("nobody joined", x.members(0, 1), 8);
        came("nobody", x, NONE, NONE, NONE, NONE, NONE, NONE, NONE, NONE, NONE, NONE, NONE);
        x.group(99);
        Due.due("one goes far", x.whole(1), 5 + 5 + 104);
        Due.due("ten", x.members(0, 1), 10);
        Due.due("the last is it", x.came(10), 1);
    }

    private static void nonePoorAlone() {
        TenForOne x = withHouses(0, 50);
        x.group(0);
        x.group(50);
        man(x, 0, true);
        Due.due("one poor alone", x.whole(0), NONE);
        man(x, 1, false);
        Due.due("the rich one comes to him, or he to the rich one", x.whole(0), 60);
        came("together", x, 0, 0);
        x = withHouses(0, 50);
        x.group(0);
        x.group(50);
        man(x, 0, true);
        x.joins(0, 1, 0);
        man(x, 1, true);
        man(x, 0, false);
        Due.due("a group of poor ones into which none came is let be", x.whole(0), 50 + 5 + 5);
        came("let be", x, NONE, 0, 0);
        x = withHouses(0);
        x.group(0);
        x.person(2, -2000, 0, 0, false, -1);
        x.joins(0, 0, 0);
        man(x, 0, true);
        Due.due("a chief's kin who is not poor", x.whole(0), 5);
        x.flees(0, 1);
        x.person(0, -2000, 0, 0, true, -1);
        Due.due("but not while away", x.whole(1), NONE);
    }

    private static void whoIsLeftOut() {
        TenForOne x = withHouses(0);
        x.group(0);
        for (int kind = 0; kind < 4; kind++) {
            x.person(kind, -2000, 0, 0, false, -1);
        }
        x.person(0, -1100, 0, 0, false, -1);
        x.person(0, -2000, 0, 0, false, -1);
        x.joins(5, 0, 20);
        x.person(0, -2000, 0, 0, false, -1);
        x.joins(6, 0, 20);
        x.leaves(6, 30);
        Due.due("a man alone", x.whole(5), 5);
        came("a man alone", x, 0, NONE, NONE, NONE, NONE, NONE, NONE);
        Due.lawsOf(x, "m12-60;c12-60;k12-60");
        Due.due("a clerk who must", x.whole(5), 5);
        came("a clerk who must", x, NONE, 0, NONE, NONE, NONE, NONE, NONE);
        Due.due("wanting still", x.wants(5, 0), 3);
        Due.due("a spell that ended on that day", x.whole(30), 5);
        came("a spell that ended", x, NONE, NONE, NONE, NONE, NONE, NONE, 0);
    }

    private static void atMostSix() {
        TenForOne x = withHouses(0);
        x.group(0);
        for (int i = 0; i < 6; i++) {
            man(x, 0, false);
        }
        x.person(2, -2000, 0, 0, false, -1);
        Due.due("six and a chief's kin", x.whole(0), 30);
        for (int i = 0; i < 7; i++) {
            man(x, 0, false);
        }
        Due.due("seven", x.whole(1), FULL);
        Due.due("nobody joined", x.members(0, 1), 6);
        came("FULL leaves it", x, 0, 0, 0, 0, 0, 0, NONE, NONE);
        x.dies(7, 0);
        Due.due("six, not ten", x.whole(1), NONE);
        x = Villages.at(0);
        for (int i = 0; i < 7; i++) {
            man(x, 0, true);
        }
        Due.due("FULL ahead of NONE", x.whole(0), FULL);
    }

    private static void cameHolds() {
        TenForOne x = withHouses(0);
        x.group(0);
        man(x, 0, false);
        x.whole(3);
        man(x, 0, true);
        x.leaves(0, 5);
        x.dies(0, 6);
        came("left and died", x, 0, NONE);
        Due.due("a poor one alone", x.whole(7), NONE);
        came("NONE leaves it", x, 0, NONE);
        Due.due("whole(-1)", x.whole(-1), BAD);
        came("BAD leaves it", x, 0, NONE);
        x.dies(1, 7);
        Due.due("nobody", x.whole(8), 0);
        came("0 is told", x, NONE, NONE);
    }
}
