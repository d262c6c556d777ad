/** Promises 15 to 24: groups, spells, who is wanting, lodgers. */
final class GroupsTest {
    private static final int BAD = TenForOne.BAD, NOT = TenForOne.NOT, FULL = TenForOne.FULL, NONE = TenForOne.NONE,
        CAST = TenForOne.CAST;

    public static void main(String[] args) {
        promise15Group();
        promise16Joins();
        promise16Full();
        promise17Leaves();
        promise18GroupOf();
        promise19Members();
        promise20Head();
        promise21And22Wants();
        promise23Stay();
        promise24Charged();
        promise24Fairs();
        promise24WhichGroup();
        Due.end();
    }

    /** Houses 0 and 1, groups 0 and 1, men of twenty years. */
    private static TenForOne withMen(int men) {
        TenForOne x = new TenForOne();
        x.house(10);
        x.house(20);
        x.group(0);
        x.group(50);
        for (int i = 0; i < men; i++) {
            x.person(0, -2000, i % 40, i % 2, false, -1);
        }
        return x;
    }

    private static void promise15Group() {
        TenForOne x = new TenForOne();
        Due.due("group(-1)", x.group(-1), BAD);
        Due.due("group(100)", x.group(100), BAD);
        for (int i = 0; i < 8; i++) {
            Due.due("group " + i, x.group(i == 0 ? 0 : 99), i);
        }
        Due.due("group 8", x.group(0), FULL);
        Due.due("BAD ahead of FULL", x.group(-1), BAD);
        Due.due("count(2)", x.count(2), 8);
    }

    private static void promise16Joins() {
        TenForOne x = withMen(3);
        x.person(3, -2000, 0, 0, false, -1);
        x.person(0, 50, 0, 0, false, -1);
        Due.due("who 5", x.joins(5, 0, 5), BAD);
        Due.due("who -1", x.joins(-1, 0, 5), BAD);
        Due.due("group 2", x.joins(0, 2, 5), BAD);
        Due.due("group -1", x.joins(0, -1, 5), BAD);
        Due.due("day -1", x.joins(0, 0, -1), BAD);
        Due.due("day 10000", x.joins(0, 0, 10000), BAD);
        Due.due("a stranger", x.joins(3, 0, 5), CAST);
        Due.due("BAD ahead of CAST", x.joins(3, 2, 5), BAD);
        Due.due("not born", x.joins(4, 0, 49), NOT);
        Due.due("nobody joined", x.members(0, 50), 0);
        Due.due("the first", x.joins(0, 0, 10), 1);
        Due.due("a spell goes on", x.joins(0, 1, 20), NOT);
        Due.due("a spell goes on, later", x.joins(0, 0, 5), NOT);
        Due.due("ahead of the first", x.joins(1, 0, 9), 1);
        Due.due("the third", x.joins(2, 0, 10), 3);
        x.leaves(0, 15);
        Due.due("ends behind that day", x.joins(0, 1, 14), NOT);
        Due.due("ahead of the whole spell", x.joins(0, 1, 3), NOT);
        Due.due("ends on that day", x.joins(0, 1, 15), 1);
        Due.due("a child, needless", x.joins(4, 1, 50), 2);
        x = withMen(1);
        x.flees(0, 5);
        Due.due("away", x.joins(0, 0, 5), NOT);
        x.back(0, 6);
        x.dies(0, 7);
        Due.due("dead", x.joins(0, 0, 8), NOT);
        Due.due("on the day of death", x.joins(0, 0, 7), 1);
    }

    private static void promise16Full() {
        TenForOne x = withMen(14);
        for (int i = 0; i < 10; i++) {
            Due.due("joins " + i, x.joins(i, 0, 10), i + 1);
        }
        Due.due("the eleventh", x.joins(10, 0, 10), FULL);
        Due.due("NOT ahead of FULL", x.joins(9, 0, 10), NOT);
        x.flees(0, 20);
        Due.due("one is away", x.joins(10, 0, 20), 10);
        x.back(0, 30);
        Due.due("eleven then", x.members(0, 30), 11);
        Due.due("eleven are full too", x.joins(11, 0, 30), FULL);
        Due.due("another group", x.joins(11, 1, 30), 1);
        Due.due("ahead of all", x.joins(12, 0, 9), 1);
        x.dies(1, 40);
        x.leaves(2, 41);
        Due.due("twelve were, two fell out", x.members(0, 41), 10);
        Due.due("ten are full", x.joins(13, 0, 41), FULL);
        x.leaves(3, 42);
        Due.due("nine are not", x.joins(13, 0, 42), 10);
    }

    private static void promise17Leaves() {
        TenForOne x = withMen(2);
        Due.due("no spell", x.leaves(0, 5), NOT);
        x.joins(0, 1, 5);
        Due.due("who 2", x.leaves(2, 6), BAD);
        Due.due("day -1", x.leaves(0, -1), BAD);
        Due.due("day 10000", x.leaves(0, 10000), BAD);
        Due.due("that day", x.leaves(0, 5), NOT);
        Due.due("ahead", x.leaves(0, 4), NOT);
        Due.due("the next day", x.leaves(0, 6), 1);
        Due.due("twice", x.leaves(0, 7), NOT);
        x.joins(0, 0, 6);
        x.dies(0, 7);
        Due.due("the dead", x.leaves(0, 9), 0);
    }

    private static void promise18GroupOf() {
        TenForOne x = withMen(1);
        x.person(3, -2000, 0, 0, false, -1);
        x.joins(0, 1, 10);
        x.leaves(0, 20);
        x.joins(0, 0, 20);
        x.leaves(0, 30);
        x.joins(0, 1, 35);
        x.flees(0, 40);
        x.back(0, 45);
        x.dies(0, 50);
        int[] due = {9, NONE, 10, 1, 19, 1, 20, 0, 29, 0, 30, NONE, 34, NONE, 35, 1, 39, 1, 40, NONE, 44, NONE, 45, 1,
            50, 1, 51, NONE};
        for (int i = 0; i < due.length; i += 2) {
            Due.due("groupOf(0, " + due[i] + ")", x.groupOf(0, due[i]), due[i + 1]);
        }
        Due.due("a stranger", x.groupOf(1, 10), NONE);
        Due.due("who 2", x.groupOf(2, 10), BAD);
        Due.due("day -1", x.groupOf(0, -1), BAD);
        Due.due("day 10000", x.groupOf(0, 10000), BAD);
    }

    private static void promise19Members() {
        TenForOne x = withMen(3);
        for (int i = 0; i < 3; i++) {
            x.joins(i, 0, 10 + i);
        }
        x.flees(0, 20);
        x.leaves(1, 21);
        x.dies(2, 22);
        int[] due = {9, 0, 10, 1, 11, 2, 12, 3, 19, 3, 20, 2, 21, 1, 22, 1, 23, 0};
        for (int i = 0; i < due.length; i += 2) {
            Due.due("members(0, " + due[i] + ")", x.members(0, due[i]), due[i + 1]);
        }
        Due.due("another group", x.members(1, 12), 0);
        Due.due("group 2", x.members(2, 12), BAD);
        Due.due("group -1", x.members(-1, 12), BAD);
        Due.due("day 10000", x.members(0, 10000), BAD);
    }

    private static void promise20Head() {
        TenForOne x = withMen(4);
        Due.due("nobody", x.head(0, 5), NONE);
        x.joins(3, 0, 5);
        x.joins(2, 0, 7);
        x.joins(1, 0, 7);
        x.joins(0, 1, 1);
        Due.due("the first alone", x.head(0, 5), 3);
        Due.due("the first", x.head(0, 7), 3);
        x.flees(3, 8);
        Due.due("of like days the least number", x.head(0, 8), 1);
        x.back(3, 9);
        Due.due("back", x.head(0, 9), 3);
        x.leaves(3, 10);
        x.joins(3, 0, 11);
        Due.due("by the day of this spell", x.head(0, 11), 1);
        Due.due("another group", x.head(1, 11), 0);
        TenForOne late = withMen(1);
        late.joins(0, 0, 9999);
        Due.due("who joined on the last day", late.head(0, 9999), 0);
        Due.due("group 2", x.head(2, 5), BAD);
        Due.due("day -1", x.head(0, -1), BAD);
    }

    private static void promise21And22Wants() {
        TenForOne x = withMen(3);
        x.person(1, -2000, 0, 0, false, -1);
        x.person(2, -2000, 0, 0, false, -1);
        x.person(3, -2000, 0, 0, false, -1);
        x.person(0, -1000, 0, 0, false, -1);
        x.joins(1, 0, 5);
        x.joins(3, 0, 5);
        x.joins(6, 1, 5);
        wants(x, 4, new int[] {0, 1, 2, 4}, new int[] {});
        wants(x, 5, new int[] {0, 2, 4}, new int[] {3, 6});
        wants(x, 200, new int[] {0, 2, 4}, new int[] {3});
        x.leaves(1, 210);
        wants(x, 210, new int[] {0, 1, 2, 4}, new int[] {3});
        Due.due("wants day -1", x.wants(-1, 0), BAD);
        Due.due("wants day 10000", x.wants(10000, 0), BAD);
        Due.due("wants what -1", x.wants(5, -1), BAD);
        Due.due("wants what 2", x.wants(5, 2), BAD);
        Due.due("wantsAt day 10000", x.wantsAt(10000, 0, 0), BAD);
        Due.due("wantsAt what 2", x.wantsAt(5, 2, 0), BAD);
        Due.due("wantsAt what -1", x.wantsAt(5, -1, 0), BAD);
    }

    private static void wants(TenForOne x, int day, int[] unsworn, int[] idle) {
        for (int what = 0; what < 2; what++) {
            int[] due = what == 0 ? unsworn : idle;
            Due.due("wants(" + day + ", " + what + ")", x.wants(day, what), due.length);
            for (int i = -1; i <= due.length; i++) {
                int who = i < 0 || i == due.length ? BAD : due[i];
                Due.due("wantsAt(" + day + ", " + what + ", " + i + ")", x.wantsAt(day, what, i), who);
            }
        }
    }

    private static void promise23Stay() {
        TenForOne x = withMen(1);
        x.person(3, -2000, 0, 0, false, -1);
        x.person(3, -2000, 0, 0, false, -1);
        Due.due("who 3", x.stay(3, 0, 1, 2), BAD);
        Due.due("house 2", x.stay(1, 2, 1, 2), BAD);
        Due.due("house -1", x.stay(1, -1, 1, 2), BAD);
        Due.due("from -1", x.stay(1, 0, -1, 2), BAD);
        Due.due("to 10000", x.stay(1, 0, 1, 10000), BAD);
        Due.due("to ahead of from", x.stay(1, 0, 2, 1), BAD);
        Due.due("no stranger", x.stay(0, 0, 1, 2), CAST);
        Due.due("BAD ahead of CAST", x.stay(0, 0, 2, 1), BAD);
        Due.due("the first", x.stay(1, 0, 10, 20), 0);
        Due.due("it is not over", x.stay(1, 1, 20, 21), NOT);
        Due.due("it is not over ahead of an earlier one", x.stay(1, 1, 1, 2), NOT);
        Due.due("another's", x.stay(2, 1, 1, 2), 1);
        Due.due("it is over", x.stay(1, 1, 21, 21), 2);
        for (int i = 3; i < 20; i++) {
            Due.due("stay " + i, x.stay(2, 0, i, i), i);
        }
        Due.due("stay 20", x.stay(2, 0, 100, 101), FULL);
        Due.due("NOT ahead of FULL", x.stay(2, 0, 5, 101), NOT);
        Due.due("CAST ahead of FULL", x.stay(0, 0, 5, 101), CAST);
        Due.due("count(4)", x.count(4), 20);
    }

    private static void promise24Charged() {
        TenForOne x = withMen(2);
        x.person(3, -2000, 0, 0, false, -1);
        x.joins(1, 1, 5);
        x.stay(2, 1, 10, 20);
        Due.due("who 3", x.charged(3, 10), BAD);
        Due.due("day -1", x.charged(2, -1), BAD);
        Due.due("day 10000", x.charged(2, 10000), BAD);
        Due.due("no stranger", x.charged(0, 10), CAST);
        Due.due("BAD ahead of CAST", x.charged(0, 10000), BAD);
        int[] due = {9, NONE, 10, NONE, 11, NONE, 12, 1, 20, 1, 21, NONE};
        for (int i = 0; i < due.length; i += 2) {
            Due.due("charged(2, " + due[i] + ")", x.charged(2, due[i]), due[i + 1]);
        }
        Due.lawsOf(x, "s9");
        Due.due("the eighth night", x.charged(2, 17), NONE);
        Due.due("the ninth night", x.charged(2, 18), 1);
        Due.lawsOf(x, "s1");
        Due.due("the first night", x.charged(2, 10), 1);
        Due.lawsOf(x, "m0-99");
        Due.due("laws without s", x.charged(2, 20), NONE);
        Due.lawsOf(x, "s3");
        x.flees(2, 14);
        x.back(2, 16);
        Due.due("ahead of the flight", x.charged(2, 13), 1);
        Due.due("away", x.charged(2, 15), NONE);
        Due.due("back, all days of the stay count", x.charged(2, 16), 1);
        x.dies(2, 17);
        Due.due("the day of death", x.charged(2, 17), 1);
        Due.due("dead", x.charged(2, 18), NONE);
    }

    private static void promise24Fairs() {
        TenForOne x = withMen(1);
        x.person(3, -2000, 0, 0, false, -1);
        x.joins(0, 0, 5);
        x.stay(1, 0, 10, 60);
        x.stay(1, 0, 61, 9999);
        x.fair(0, 10);
        Due.due("the first night is in a fair", x.charged(1, 12), NONE);
        Due.due("a night later", x.charged(1, 13), 0);
        x.fair(12, 20);
        x.fair(15, 30);
        x.fair(14, 15);
        x.fair(12, 12);
        Due.due("fairs over one another", x.charged(1, 31), NONE);
        Due.due("behind them", x.charged(1, 32), 0);
        Due.due("on a day in a fair", x.charged(1, 20), NONE);
        x.fair(40, 45);
        Due.due("enough nights, on a day in a fair", x.charged(1, 42), 0);
        Due.due("another stay begins anew", x.charged(1, 62), NONE);
        Due.due("and is long", x.charged(1, 63), 0);
        Due.due("its last day", x.charged(1, 9999), 0);
    }

    private static void promise24WhichGroup() {
        TenForOne x = withMen(6);
        x.person(3, -2000, 0, 1, false, -1);
        x.stay(6, 0, 10, 90);
        Due.due("no member in that house", x.charged(6, 20), NONE);
        x.joins(1, 1, 5);
        Due.due("a member of another house", x.charged(6, 20), NONE);
        x.joins(4, 1, 15);
        Due.due("a member", x.charged(6, 20), 1);
        Due.due("not yet on that day", x.charged(6, 14), NONE);
        x.joins(2, 0, 30);
        Due.due("the least numbered", x.charged(6, 30), 0);
        x.flees(2, 40);
        Due.due("the least who is there", x.charged(6, 40), 1);
        x.leaves(4, 50);
        Due.due("none", x.charged(6, 50), NONE);
    }
}
