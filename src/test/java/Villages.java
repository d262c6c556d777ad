/** Villages that several tests begin with. */
final class Villages {
    private Villages() {
    }

    /** Something of all there is: 2 houses and groups, 9 people, a fair, a stay, pleas 0 (parted) and 1 (brought). */
    static void busy(TenForOne x) {
        x.house(10);
        x.house(90);
        x.group(10);
        x.group(90);
        x.person(0, -3000, 0, 0, false, -1);
        x.person(0, -1800, 0, 0, true, 0);
        x.person(1, -2500, 1, 1, false, -1);
        x.person(2, -2600, 2, 1, false, -1);
        x.person(3, -2000, 39, 1, false, -1);
        x.person(0, -2000, 1, 0, false, -1);
        x.person(0, -2000, 2, 1, true, -1);
        x.person(0, 5000, 3, 0, false, -1);
        x.person(1, -2000, 3, 0, false, -1);
        x.joins(0, 0, 5);
        x.joins(1, 0, 5);
        x.joins(5, 0, 5);
        x.joins(3, 1, 5);
        x.joins(2, 1, 6);
        x.whole(8);
        x.fair(12, 13);
        x.stay(4, 1, 10, 30);
        x.flees(5, 20);
        x.plea(5, 100);
        x.judge(51);
        x.pays(0, 5);
        x.flees(4, 22);
        x.back(4, 25);
        x.plea(4, 40);
        x.flees(2, 60);
        x.back(2, 70);
        x.dies(8, 50);
        x.sheet(0, 0, 3);
        x.item(0, 0, 1, 1);
        x.item(0, 0, 2, 39);
        x.sheet(2, 2, 20);
        x.sheet(3, 1, 0);
        x.roll(0, 5, 0, 0);
        x.type('m', 1);
    }

    static void houses(TenForOne x, int count) {
        for (int i = 0; i < count; i++) {
            x.house(50);
        }
    }

    static void groups(TenForOne x, int count) {
        for (int i = 0; i < count; i++) {
            x.group(50);
        }
    }

    /** Rich men of twenty years, in house 0. */
    static void men(TenForOne x, int count) {
        for (int i = 0; i < count; i++) {
            x.person(0, -2000, i % 40, 0, false, -1);
        }
    }

    /** House 0, groups 0 and 1, and this many men, who joined group 0 on day 5, ten at most. */
    static void group(TenForOne x, int count) {
        houses(x, 1);
        groups(x, 2);
        men(x, count);
        for (int i = 0; i < Math.min(10, count); i++) {
            x.joins(i, 0, 5);
        }
    }

    /** House 0, groups 0 and 1; of each letter one who joined group 0 on day 5: r is rich, p poor. */
    static TenForOne ofWealth(String wealth) {
        TenForOne x = at(50, 50, 50);
        for (char sign : wealth.toCharArray()) {
            x.joins(x.person(0, -2000, 0, 0, sign == 'p', -1), 0, 5);
        }
        return x;
    }

    /** As that; then one fled on day 10, and the plea about him, with this fine, is judged. */
    static TenForOne judged(String wealth, int fled, int fine) {
        TenForOne x = ofWealth(wealth);
        x.flees(fled, 10);
        x.plea(fled, fine);
        x.judge(41);
        return x;
    }

    /** Checks what each of the first people owes of a plea. */
    static void owe(String told, TenForOne x, int plea, int... due) {
        for (int who = 0; who < due.length; who++) {
            Due.due(told + ": owes(" + who + ", " + plea + ")", x.owes(who, plea), due[who]);
        }
    }

    /** House 0, groups 0 and 1; people with these names, who joined group 0 on day 5. */
    static TenForOne ofNames(int... names) {
        TenForOne x = at(50, 50, 50);
        for (int name : names) {
            x.joins(x.person(0, -2000, name, 0, false, -1), 0, 5);
        }
        return x;
    }

    /** House 0 at this lane, and groups at these. */
    static TenForOne at(int lane, int... groupLanes) {
        TenForOne x = new TenForOne();
        x.house(lane);
        for (int groupLane : groupLanes) {
            x.group(groupLane);
        }
        return x;
    }
}
