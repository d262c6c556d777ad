/** Edges that section 3 of the document names, beside those of PleasTest, NumbersTest and RefusalsTest. */
final class Edges3PleasTest {
    private static final int NOT = TenForOne.NOT;

    private Edges3PleasTest() {
    }

    public static void main(String[] args) {
        memberTheDayAhead();
        whoAnswers();
        withinThirtyDays();
        moreThanThirtyBehind();
        lastDays();
        onceOnly();
        leastAndMostFines();
        restsOfOneParting();
        restsByWeights();
        noneLeft();
        debtOfOne();
        debtOfEachPlea();
        paysTheLeast();
        paysAcrossPleas();
        borneByHowMany();
        tooMuch();
        oneGroupAlone();
        Due.end();
    }

    /** "of one who FLED, as a MEMBER (the DAY ahead) of a GROUP". */
    private static void memberTheDayAhead() {
        TenForOne x = Villages.ofWealth("rr");
        x.flees(0, 6);
        Due.due("joined a day ahead", x.plea(0, 1), 0);
        x = Villages.ofWealth("rr");
        x.leaves(0, 10);
        x.joins(0, 1, 10);
        x.flees(0, 10);
        x.plea(0, 1);
        Due.due("the group of the day ahead, not of that day", x.about(0, 2), 0);
        x = Villages.ofWealth("rr");
        x.leaves(0, 10);
        x.joins(0, 1, 10);
        x.flees(0, 11);
        x.plea(0, 1);
        Due.due("the group joined the day ahead", x.about(0, 2), 1);
        Due.due("in which nobody answers", x.about(0, 4), 0);
        x = Villages.ofWealth("rr");
        x.flees(0, 10);
        x.back(0, 20);
        x.flees(0, 21);
        x.plea(0, 1);
        Due.due("back the day ahead, a member again", x.about(0, 1), 21);
    }

    /** "who ANSWER are all other MEMBERS on the DAY of his flight". */
    private static void whoAnswers() {
        TenForOne x = Villages.ofWealth("rrrrrrr");
        Villages.men(x, 3);
        x.flees(1, 10);
        x.flees(2, 9);
        x.back(2, 10);
        x.leaves(3, 10);
        x.leaves(4, 11);
        x.dies(5, 10);
        x.dies(6, 9);
        x.joins(7, 0, 10);
        x.joins(8, 0, 11);
        x.joins(9, 1, 10);
        x.flees(0, 10);
        x.plea(0, 100);
        Due.due("back, leaving later, dying, joining that day", x.about(0, 4), 4);
        x.judge(41);
        Villages.owe("all who answer and live", x, 0, 0, 0, 34, 0, 33, 0, 0, 33, 0, 0);
    }

    /** "BROUGHT, if he is BACK within 30 DAYS." */
    private static void withinThirtyDays() {
        int[][] due = {{1, 1}, {29, 1}, {30, 1}, {31, 0}, {32, 0}};
        for (int[] row : due) {
            TenForOne x = Villages.ofWealth("rr");
            x.flees(0, 10);
            x.plea(0, 7);
            x.back(0, 10 + row[0]);
            Due.due("back behind " + row[0] + " days", x.about(0, 5), row[1]);
            Due.due("judged behind " + row[0] + " days", x.judge(9999), 1 - row[1]);
            Due.due("owed behind " + row[0] + " days", x.owes(1, 0), 7 * (1 - row[1]));
            Due.due("told behind " + row[0] + " days", x.about(0, 5), 2 - row[1]);
            x.flees(0, 100);
            x.plea(0, 7);
            Due.due("the next flight waits", x.about(1, 5), 0);
            x.back(0, 100 + row[0]);
            Due.due("the next flight, behind " + row[0] + " days", x.about(1, 5), row[1]);
            Due.due("the first as it was", x.about(0, 5), 2 - row[1]);
        }
    }

    /** "DUE on a DAY more than 30 behind his flight". */
    private static void moreThanThirtyBehind() {
        int[][] due = {{0, 0}, {9, 0}, {10, 0}, {39, 0}, {40, 0}, {41, 1}, {9999, 1}};
        for (int[] row : due) {
            TenForOne x = Villages.ofWealth("rr");
            x.flees(0, 10);
            x.plea(0, 7);
            Due.due("judge(" + row[0] + ")", x.judge(row[0]), row[1]);
            Due.due("owed then", x.owes(1, 0), 7 * row[1]);
            Due.due("told then", x.about(0, 5), 2 * row[1]);
        }
    }

    private static void lastDays() {
        TenForOne x = Villages.ofWealth("rrr");
        x.flees(0, 9968);
        x.flees(1, 9969);
        x.plea(0, 5);
        x.plea(1, 5);
        Due.due("one of two is due on the last day", x.judge(9999), 1);
        Due.due("the first", x.about(0, 5), 2);
        Due.due("the second never", x.about(1, 5), 0);
        x = Villages.ofWealth("rr");
        x.flees(0, 9999);
        Due.due("a flight on the last day", x.plea(0, 5), 0);
        Due.due("is never due", x.judge(9999), 0);
    }

    /** "the FINE is PARTED once". */
    private static void onceOnly() {
        TenForOne x = Villages.ofWealth("rrr");
        x.flees(0, 10);
        x.plea(0, 100);
        Due.due("judged", x.judge(41), 1);
        x.pays(1, 50);
        Due.due("judged again", x.judge(41), 0);
        Due.due("and later", x.judge(9999), 0);
        Villages.owe("once", x, 0, 0, 0, 50);
        Due.due("borne once", x.borne(0, 5, 0), 100);
        x.dies(1, 50);
        x.dies(2, 50);
        Due.due("and not again, with none left", x.judge(9999), 0);
        Due.due("lost once", x.count(6), 50);
    }

    /** "a FINE (1 .. 9999)", among one and among nine. */
    private static void leastAndMostFines() {
        TenForOne x = Villages.judged("rp", 0, 9999);
        Villages.owe("the most, one alone", x, 0, 0, 9999);
        x = Villages.ofWealth("rrrrrrrrrr");
        x.flees(9, 10);
        Due.due("ten are a group", x.members(0, 9), 10);
        x.plea(9, 1);
        Due.due("nine answer", x.about(0, 4), 9);
        x.judge(41);
        Villages.owe("the least, among nine", x, 0, 1, 0, 0, 0, 0, 0, 0, 0, 0, 0);
        x.back(9, 50);
        x.flees(9, 60);
        x.plea(9, 9);
        x.judge(91);
        Villages.owe("one each, no rest", x, 1, 1, 1, 1, 1, 1, 1, 1, 1, 1, 0);
        x.back(9, 100);
        x.flees(9, 110);
        x.plea(9, 17);
        x.judge(141);
        Villages.owe("eight of nine have one more", x, 2, 2, 2, 2, 2, 2, 2, 2, 2, 1, 0);
    }

    /** What one parting leaves over does not reach into the next. */
    private static void restsOfOneParting() {
        TenForOne x = Villages.ofWealth("rrrr");
        x.flees(0, 10);
        x.plea(0, 100);
        x.leaves(2, 12);
        x.leaves(3, 12);
        x.back(0, 13);
        x.flees(0, 20);
        x.plea(0, 100);
        Due.due("one alone answers for the second", x.about(1, 4), 1);
        Due.due("the second alone is due", x.judge(51), 1);
        Villages.owe("all of it", x, 1, 0, 100, 0, 0);
        // By seven, of 10: 30/7 4 rest 2, twice, and 10/7 1 rest 3; then by four, of 2: 6/4 1 rest 2, 2/4 0 rest 2.
        x = Villages.judged("rrpr", 3, 10);
        Villages.owe("three", x, 0, 4, 4, 2, 0);
        x.leaves(0, 45);
        x.back(3, 50);
        x.flees(3, 60);
        x.plea(3, 2);
        x.judge(91);
        Villages.owe("two", x, 1, 0, 2, 0, 0);
    }

    /** "each the FINE times his weight by all weights, cut down, then 1 more each for those of the greatest rest". */
    private static void restsByWeights() {
        // By seven, of 10: 30/7 4 rest 2, 10/7 1 rest 3, 30/7 4 rest 2: 1 more to the poor one.
        TenForOne x = Villages.judged("rrpr", 0, 10);
        Villages.owe("the poor one has the greatest rest", x, 0, 0, 4, 2, 4);
        // By seven, of 8: 24/7 3 rest 3, 8/7 1 rest 1, 24/7 3 rest 3: 1 more to the first of like ones.
        x = Villages.judged("rrpr", 0, 8);
        Villages.owe("of like ones the least number", x, 0, 0, 4, 1, 3);
        // By seven, of 9: 27/7 3 rest 6, 9/7 1 rest 2, 27/7 3 rest 6: 1 more to both rich ones.
        x = Villages.judged("rrpr", 0, 9);
        Villages.owe("two have one more", x, 0, 0, 4, 1, 4);
        // By seven, of 7: nothing is left over.
        x = Villages.judged("rrpr", 0, 7);
        Villages.owe("no rest", x, 0, 0, 3, 1, 3);
    }

    /** "with none left all of it is lost". */
    private static void noneLeft() {
        TenForOne x = Villages.ofWealth("rr");
        x.flees(0, 10);
        x.plea(0, 100);
        x.dies(1, 12);
        Due.due("nothing is lost as yet", x.count(6), 0);
        Due.due("judged all the same", x.judge(41), 1);
        Due.due("all is lost", x.count(6), 100);
        Due.due("parted", x.about(0, 5), 2);
        Due.due("not borne", x.borne(0, 5, 0), 0);
        Due.due("he who fled owes nothing", x.owes(0, -1), 0);
        x = Villages.ofWealth("rrp");
        x.flees(0, 10);
        x.plea(0, 100);
        x.dies(1, 12);
        x.judge(41);
        Due.due("one poor one is some", x.owes(2, 0), 100);
        Due.due("borne", x.borne(0, 5, 0), 100);
        Due.due("nothing is lost", x.count(6), 0);
        Due.due("till he dies", x.dies(2, 50), 100);
        Due.due("all is lost then", x.count(6), 100);
        Due.due("borne still", x.borne(0, 5, 0), 100);
    }

    /** "As one DIES who OWES of a PLEA": be it 1, or nothing. */
    private static void debtOfOne() {
        TenForOne x = Villages.judged("rrrr", 0, 2);
        Villages.owe("one each of two", x, 0, 0, 1, 1, 0);
        Due.due("owed one", x.dies(1, 50), 1);
        Villages.owe("to the first of like ones", x, 0, 0, 0, 2, 0);
        Due.due("owed nothing", x.dies(3, 50), 0);
        Villages.owe("as ahead", x, 0, 0, 0, 2, 0);
        x.pays(2, 1);
        Due.due("owed what is not paid", x.dies(2, 50), 1);
        Villages.owe("nobody is left", x, 0, 0, 0, 0, 0);
        Due.due("one is lost", x.count(6), 1);
        x = Villages.judged("rrr", 0, 10);
        x.pays(1, 5);
        Due.due("all is paid", x.dies(1, 50), 0);
        Villages.owe("the other owes his own", x, 0, 0, 0, 5);
        x.pays(2, 5);
        x.dies(2, 50);
        Due.due("nothing is lost of what is paid", x.count(6), 0);
        x = Villages.judged("rrr", 0, 10);
        x.pays(2, 5);
        x.dies(1, 50);
        Villages.owe("one who has paid bears it too", x, 0, 0, 0, 5);
    }

    /** "what he OWES of it is parted among all others of that PLEA who are not dead". */
    private static void debtOfEachPlea() {
        TenForOne x = Villages.ofWealth("rrrp");
        x.flees(0, 10);
        x.plea(0, 70);
        x.leaves(3, 60);
        x.back(0, 70);
        x.flees(0, 80);
        x.plea(0, 10);
        x.judge(9999);
        Villages.owe("the first plea", x, 0, 0, 30, 30, 10);
        Villages.owe("the second plea", x, 1, 0, 5, 5, 0);
        Due.due("of both", x.dies(1, 200), 35);
        // Of 30 by four: 90/4 22 rest 2, 30/4 7 rest 2: 1 more to the less number.
        Villages.owe("the first anew", x, 0, 0, 0, 53, 17);
        Villages.owe("the second anew", x, 1, 0, 0, 10, 0);
        Due.due("of both again", x.dies(2, 200), 63);
        Villages.owe("the first, to the last", x, 0, 0, 0, 0, 70);
        Villages.owe("the second, to nobody", x, 1, 0, 0, 0, 0);
        Due.due("ten are lost", x.count(6), 10);
    }

    /** "One pays (1 .. 99999): how much of it was OWED." */
    private static void paysTheLeast() {
        TenForOne x = Villages.judged("rr", 0, 10);
        Due.due("one", x.pays(1, 1), 1);
        Due.due("nine left", x.owes(1, 0), 9);
        Due.due("eight", x.pays(1, 8), 8);
        Due.due("one left", x.owes(1, -1), 1);
        Due.due("two, of which one is owed", x.pays(1, 2), 1);
        Due.due("none left", x.owes(1, -1), 0);
        Due.due("no more", x.pays(1, 1), NOT);
        x = Villages.judged("rr", 0, 9999);
        Due.due("exactly what is owed", x.pays(1, 9999), 9999);
        Due.due("none left of that", x.owes(1, -1), 0);
    }

    /** "What one pays goes to the first PLEA of which he OWES, then the next." */
    private static void paysAcrossPleas() {
        TenForOne x = Villages.ofWealth("rr");
        for (int i = 0; i < 20; i++) {
            x.flees(0, 10 + 40 * i);
            x.plea(0, 9999);
            x.back(0, 45 + 40 * i);
        }
        Due.due("twenty are due", x.judge(9999), 20);
        Due.due("all of them", x.owes(1, -1), 199980);
        Due.due("the most that is taken", x.pays(1, 99999), 99999);
        Due.due("of the tenth nothing is left", x.owes(1, 9), 0);
        Due.due("nine are paid of the eleventh", x.owes(1, 10), 9990);
        Due.due("the last is whole", x.owes(1, 19), 9999);
        Due.due("to the end of the eleventh", x.pays(1, 9990), 9990);
        Due.due("the eleventh", x.owes(1, 10), 0);
        Due.due("the twelfth", x.owes(1, 11), 9999);
        Due.due("the most again", x.pays(1, 99999), 89991);
        Due.due("of all", x.owes(1, -1), 0);
    }

    /** "BORNE by how many MEMBERS it has on a DAY (none: BORNE)". */
    private static void borneByHowMany() {
        TenForOne x = Villages.judged("rrrrrrrrrr", 0, 999);
        Due.due("ten", x.borne(0, 9, 1), 99);
        Due.due("nine", x.borne(0, 10, 1), 111);
        Due.due("none", x.borne(0, 4, 1), 999);
        for (int i = 1; i < 9; i++) {
            x.leaves(i, 20);
        }
        Due.due("nine on the day ahead", x.borne(0, 19, 1), 111);
        Due.due("one", x.borne(0, 20, 1), 999);
        x.leaves(9, 20);
        Due.due("nobody", x.borne(0, 20, 1), 999);
        Due.due("whatever the day, all of it", x.borne(0, 0, 0), 999);
        Due.due("the other group", x.borne(1, 20, 1), 0);
    }

    /** "TOO MUCH: more than twice the middle of all GROUPS' (their sum by how many GROUPS there are)." */
    private static void tooMuch() {
        TenForOne x = new TenForOne();
        x.house(50);
        Villages.groups(x, 3);
        Due.due("nothing is borne", x.borne(0, 5, 2), 0);
        for (int i = 0; i < 6; i++) {
            x.person(0, -2000, 0, 0, false, -1);
            x.joins(i, i / 2, 5);
        }
        int[] fines = {60, 20, 10};
        for (int group = 0; group < 3; group++) {
            x.flees(2 * group, 10);
            x.plea(2 * group, fines[group]);
        }
        x.judge(41);
        Due.due("60 is no more than twice 30", x.borne(0, 10, 2), 0);
        Due.due("20 is not", x.borne(1, 10, 2), 0);
        x.back(0, 50);
        x.flees(0, 60);
        x.plea(0, 1);
        x.judge(91);
        Due.due("61 is more than twice 91 by three, cut down", x.borne(0, 10, 2), 1);
        x.person(0, -2000, 0, 0, false, -1);
        x.joins(6, 0, 10);
        Due.due("by two heads it is 30, and no more than twice 20", x.borne(0, 10, 2), 0);
        Due.due("on the day ahead as well: two heads each", x.borne(0, 9, 2), 0);
    }

    private static void oneGroupAlone() {
        TenForOne x = Villages.at(50, 50);
        Villages.men(x, 2);
        x.joins(0, 0, 5);
        x.joins(1, 0, 5);
        x.flees(0, 10);
        x.plea(0, 100);
        x.judge(41);
        Due.due("by heads", x.borne(0, 10, 1), 100);
        Due.due("one group is its own middle", x.borne(0, 10, 2), 0);
        x.group(50);
        Due.due("a second bears nothing: 100 is no more than twice 50", x.borne(0, 10, 2), 0);
        x.group(50);
        Due.due("a third: 100 is more than twice 33", x.borne(0, 10, 2), 1);
        Due.due("nothing is not too much", x.borne(2, 10, 2), 0);
    }
}
