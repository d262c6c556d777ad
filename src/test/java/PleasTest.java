/** Promises 27 to 33: pleas, fines, what is owed, borne and lost. */
final class PleasTest {
    private static final int BAD = TenForOne.BAD, NOT = TenForOne.NOT, FULL = TenForOne.FULL, NONE = TenForOne.NONE;

    public static void main(String[] args) {
        promise27Refusals();
        promise27WhichFlight();
        promise27Full();
        promise27Stranger();
        promise28About();
        promise28And29Brought();
        promise29Judge();
        promise29Rests();
        promise6And30Deaths();
        promise30Owes();
        promise31Pays();
        promise32Borne();
        promise33Count();
        Due.end();
    }

    private static void promise27Refusals() {
        TenForOne x = Villages.ofWealth("rr");
        Due.due("who 2", x.plea(2, 10), BAD);
        Due.due("who -1", x.plea(-1, 10), BAD);
        Due.due("fine 0", x.plea(0, 0), BAD);
        Due.due("fine 10000", x.plea(0, 10000), BAD);
        Due.due("never fled", x.plea(0, 10), NOT);
        x.flees(0, 5);
        Due.due("no member the day ahead", x.plea(0, 10), NOT);
        x.back(0, 6);
        x.flees(0, 7);
        Due.due("a member the day ahead", x.plea(0, 9999), 0);
        Due.due("there is one of that flight", x.plea(0, 1), NOT);
        x.leaves(1, 8);
        x.flees(1, 8);
        Due.due("a member the day ahead, who left", x.plea(1, 1), 1);
        Due.due("nobody is left to answer there, but a group is", x.about(1, 4), 0);
        x = Villages.ofWealth("r");
        x.flees(0, 0);
        Due.due("fled on day 0", x.plea(0, 1), NOT);
        x = Villages.ofWealth("r");
        x.leaves(0, 9);
        x.flees(0, 10);
        Due.due("left two days ahead", x.plea(0, 1), NOT);
        Due.due("no plea came", x.count(5), 0);
    }

    private static void promise27WhichFlight() {
        TenForOne x = Villages.ofWealth("rrr");
        x.flees(0, 10);
        x.back(0, 20);
        Due.due("one who was away", x.plea(0, 5), 0);
        Due.due("there is one", x.plea(0, 5), NOT);
        x.flees(0, 50);
        Due.due("the latest flight", x.plea(0, 6), 1);
        Due.due("its day", x.about(1, 1), 50);
        Due.due("the earlier stays", x.about(0, 1), 10);
        x.dies(0, 60);
        Due.due("there is one of a dead one", x.plea(0, 5), NOT);
        x.flees(1, 70);
        x.dies(1, 71);
        Due.due("the dead", x.plea(1, 5), 2);
    }

    private static void promise27Full() {
        TenForOne x = Villages.ofWealth("rr");
        for (int i = 0; i < 20; i++) {
            x.flees(0, 10 + 2 * i);
            Due.due("plea " + i, x.plea(0, 1), i);
            x.back(0, 11 + 2 * i);
        }
        Due.due("NOT ahead of FULL", x.plea(0, 1), NOT);
        x.flees(0, 100);
        Due.due("plea 20", x.plea(0, 1), FULL);
        Due.due("BAD ahead of FULL", x.plea(0, 0), BAD);
        Due.due("count(5)", x.count(5), 20);
    }

    private static void promise27Stranger() {
        TenForOne x = Villages.ofWealth("rp");
        x.person(3, -2000, 0, 0, false, -1);
        x.stay(2, 0, 10, 30);
        x.flees(2, 12);
        Due.due("not charged the day ahead", x.plea(2, 10), NOT);
        x.back(2, 13);
        x.flees(2, 14);
        Due.due("charged the day ahead", x.plea(2, 10), 0);
        Due.due("the group", x.about(0, 2), 0);
        Due.due("all its members", x.about(0, 4), 2);
        x.back(2, 15);
        x.flees(2, 31);
        Due.due("charged on the last day of the stay", x.plea(2, 10), 1);
        x.back(2, 32);
        x.flees(2, 33);
        Due.due("lodged no more", x.plea(2, 10), NOT);
    }

    private static void promise28About() {
        TenForOne x = Villages.ofWealth("rrrr");
        x.person(0, -2000, 0, 0, false, -1);
        x.joins(4, 1, 5);
        x.flees(3, 40);
        x.leaves(2, 40);
        x.dies(1, 40);
        x.flees(0, 50);
        x.plea(3, 70);
        int[] due = {3, 40, 0, 70, 2, 0};
        for (int what = 0; what < 6; what++) {
            Due.due("about(0, " + what + ")", x.about(0, what), due[what]);
        }
        x.plea(0, 70);
        Due.due("nobody is left", x.about(1, 4), 0);
        x.flees(4, 60);
        x.plea(4, 80);
        Due.due("group 1", x.about(2, 2), 1);
        Due.due("nobody else", x.about(2, 4), 0);
        Due.due("what -1", x.about(0, -1), BAD);
        Due.due("what 6", x.about(0, 6), BAD);
        Due.due("plea -1", x.about(-1, 0), BAD);
        Due.due("plea 3", x.about(3, 0), BAD);
    }

    private static void promise28And29Brought() {
        TenForOne x = Villages.ofWealth("rrrr");
        x.flees(0, 10);
        x.flees(1, 10);
        x.plea(0, 10);
        x.plea(1, 10);
        Due.due("waits", x.about(0, 5), 0);
        x.back(0, 40);
        x.back(1, 41);
        Due.due("30 days", x.about(0, 5), 1);
        Due.due("31 days", x.about(1, 5), 0);
        Due.due("one is due", x.judge(9999), 1);
        Due.due("still brought", x.about(0, 5), 1);
        Due.due("parted", x.about(1, 5), 2);
        x.flees(0, 100);
        x.plea(0, 10);
        Due.due("a new flight does not undo it", x.about(0, 5), 1);
        Due.due("the new one waits", x.about(2, 5), 0);
        x.judge(131);
        x.back(0, 120);
        Due.due("parted stays parted", x.about(2, 5), 2);
        x.flees(2, 200);
        x.back(2, 230);
        x.plea(2, 10);
        Due.due("brought from the first", x.about(3, 5), 1);
    }

    private static void promise29Judge() {
        TenForOne x = Villages.ofWealth("rrpp");
        x.flees(0, 10);
        x.plea(0, 70);
        Due.due("judge(-1)", x.judge(-1), BAD);
        Due.due("judge(10000)", x.judge(10000), BAD);
        Due.due("30 days behind", x.judge(40), 0);
        Villages.owe("30 days", x, 0, 0, 0, 0, 0);
        Due.due("31 days behind", x.judge(41), 1);
        Villages.owe("31 days", x, 0, 0, 42, 14, 14);
        Due.due("once", x.judge(9999), 0);
        Villages.owe("once", x, 0, 0, 42, 14, 14);
        x.flees(1, 50);
        x.flees(2, 52);
        x.plea(2, 9);
        x.plea(1, 20);
        Due.due("one of two", x.judge(81), 1);
        Due.due("the first waits", x.about(1, 5), 0);
        Due.due("the second is parted", x.about(2, 5), 2);
        Villages.owe("away ones answer too, if they were there", x, 2, 0, 0, 10, 10);
        Due.due("the first then", x.judge(200), 1);
        Villages.owe("alone", x, 1, 0, 0, 0, 9);
    }

    private static void promise29Rests() {
        TenForOne x = Villages.judged("rrrr", 0, 100);
        Villages.owe("of like rests the least number", x, 0, 0, 34, 33, 33);
        x = Villages.judged("rprp", 0, 9);
        // 9/5, 27/5, 9/5: 1 rest 4, 5 rest 2, 1 rest 4.
        Villages.owe("the greatest rests", x, 0, 0, 2, 5, 2);
        x = Villages.judged("rppr", 0, 1);
        Villages.owe("one", x, 0, 0, 0, 0, 1);
        x = Villages.judged("rpppppppp", 0, 9999);
        Villages.owe("seven more", x, 0, 0, 1250, 1250, 1250, 1250, 1250, 1250, 1250, 1249);
        x = Villages.judged("rrr", 1, 101);
        Villages.owe("the first answers", x, 0, 51, 0, 50);
        x.dies(2, 60);
        Villages.owe("and bears what the dead owed", x, 0, 101, 0, 0);
        x = Villages.ofWealth("rrp");
        x.flees(0, 10);
        x.plea(0, 100);
        x.dies(1, 20);
        x.judge(50);
        Villages.owe("the dead have no part", x, 0, 0, 0, 100);
        x = Villages.ofWealth("rrp");
        x.flees(0, 10);
        x.plea(0, 100);
        x.dies(1, 20);
        x.dies(2, 20);
        Due.due("with none left", x.judge(50), 1);
        Due.due("is parted", x.about(0, 5), 2);
        Due.due("how many answer", x.about(0, 4), 2);
        Due.due("lost", x.count(6), 100);
    }

    private static void promise6And30Deaths() {
        TenForOne x = Villages.judged("rrpp", 0, 70);
        x.pays(1, 40);
        Due.due("owes 2", x.dies(1, 60), 2);
        Villages.owe("parted anew", x, 0, 0, 0, 15, 15);
        Due.due("owes 15", x.dies(3, 61), 15);
        Villages.owe("all to one", x, 0, 0, 0, 30, 0);
        Due.due("nothing is lost", x.count(6), 0);
        Due.due("the last", x.dies(2, 62), 30);
        Villages.owe("none", x, 0, 0, 0, 0, 0);
        Due.due("lost", x.count(6), 30);
        x = Villages.ofWealth("rrrr");
        x.flees(0, 10);
        x.flees(1, 20);
        x.plea(0, 10);
        x.plea(1, 11);
        x.judge(100);
        Villages.owe("plea 0", x, 0, 0, 4, 3, 3);
        Villages.owe("plea 1", x, 1, 0, 0, 6, 5);
        Due.due("of two pleas", x.dies(2, 101), 9);
        Villages.owe("plea 0 anew", x, 0, 0, 6, 0, 4);
        Villages.owe("plea 1 anew", x, 1, 0, 0, 0, 11);
        Due.due("the one who fled owes nothing", x.dies(0, 101), 0);
    }

    private static void promise30Owes() {
        TenForOne x = Villages.ofWealth("rr");
        Due.due("of all, no plea", x.owes(0, -1), 0);
        Due.due("plea 0", x.owes(0, 0), BAD);
        Due.due("plea -2", x.owes(0, -2), BAD);
        Due.due("who 2", x.owes(2, -1), BAD);
        Due.due("who -1", x.owes(-1, -1), BAD);
        for (int i = 0; i < 2; i++) {
            x.flees(0, 10 + 40 * i);
            x.plea(0, 10 + i);
            x.back(0, 45 + 40 * i);
        }
        Villages.owe("not judged", x, -1, 0, 0);
        Due.due("judge", x.judge(200), 2);
        Villages.owe("plea 0", x, 0, 0, 10);
        Villages.owe("plea 1", x, 1, 0, 11);
        Villages.owe("of all", x, -1, 0, 21);
        Due.due("plea 2", x.owes(0, 2), BAD);
    }

    private static void promise31Pays() {
        TenForOne x = Villages.ofWealth("rr");
        for (int i = 0; i < 3; i++) {
            x.flees(0, 10 + 40 * i);
            x.plea(0, 10);
            x.back(0, 45 + 40 * i);
        }
        Due.due("owes nothing", x.pays(1, 5), NOT);
        x.judge(200);
        Due.due("who 2", x.pays(2, 5), BAD);
        Due.due("amount 0", x.pays(1, 0), BAD);
        Due.due("amount -1", x.pays(1, -1), BAD);
        Due.due("amount 100000", x.pays(1, 100000), BAD);
        Due.due("the other owes nothing", x.pays(0, 5), NOT);
        Due.due("of the first", x.pays(1, 4), 4);
        Due.due("6 left", x.owes(1, 0), 6);
        Due.due("all of the first, some of the second", x.pays(1, 9), 9);
        Due.due("first", x.owes(1, 0), 0);
        Due.due("second", x.owes(1, 1), 7);
        Due.due("third", x.owes(1, 2), 10);
        Due.due("more than is owed", x.pays(1, 99999), 17);
        Due.due("nothing is left", x.owes(1, -1), 0);
        Due.due("no more", x.pays(1, 1), NOT);
        x.dies(1, 300);
        Due.due("dead", x.pays(1, 1), NOT);
        Due.due("what was paid is not lost", x.count(6), 0);
    }

    private static void promise32Borne() {
        TenForOne x = Villages.ofWealth("rrrr");
        x.group(99);
        x.joins(x.person(0, -2000, 0, 0, false, -1), 1, 5);
        x.flees(0, 10);
        x.plea(0, 100);
        x.flees(4, 10);
        x.plea(4, 1000);
        Due.due("not judged", x.borne(0, 20, 0), 0);
        x.judge(50);
        Due.due("borne", x.borne(0, 20, 0), 100);
        Due.due("by three heads", x.borne(0, 20, 1), 33);
        Due.due("by four heads", x.borne(0, 9, 1), 25);
        Due.due("by none", x.borne(0, 4, 1), 100);
        Due.due("parted among none is not borne", x.borne(1, 20, 0), 0);
        Due.due("33 is more than twice 33 by 3", x.borne(0, 20, 2), 1);
        Due.due("0 is not", x.borne(1, 20, 2), 0);
        x.joins(x.person(0, -2000, 0, 0, false, -1), 2, 5);
        x.joins(x.person(0, -2000, 0, 0, false, -1), 2, 5);
        x.flees(5, 20);
        x.plea(5, 17);
        x.judge(60);
        Due.due("17 by one head", x.borne(2, 30, 1), 17);
        Due.due("33 is more than twice 50 by 3", x.borne(0, 30, 2), 1);
        Due.due("17 is not", x.borne(2, 30, 2), 0);
        x.flees(6, 70);
        x.plea(6, 1);
        x.judge(200);
        Due.due("the day counts: 17 and 100 by none", x.borne(2, 4, 1), 17);
        Due.due("100 and 17: 39, twice 78", x.borne(0, 4, 2), 1);
        x.dies(1, 300);
        x.dies(2, 300);
        x.dies(3, 300);
        Due.due("debts lost later are borne all the same", x.borne(0, 20, 0), 100);
        Due.due("group 3", x.borne(3, 20, 0), BAD);
        Due.due("group -1", x.borne(-1, 20, 0), BAD);
        Due.due("day 10000", x.borne(0, 10000, 0), BAD);
        Due.due("what -1", x.borne(0, 20, -1), BAD);
        Due.due("what 3", x.borne(0, 20, 3), BAD);
        middleIsCutDown();
    }

    /** By heads 5 and 0: the middle is 2 and a half, cut down 2, and twice that 4. */
    private static void middleIsCutDown() {
        TenForOne x = Villages.judged("rr", 0, 5);
        Due.due("5 is more than twice 2", x.borne(0, 20, 2), 1);
        x = Villages.judged("rr", 0, 6);
        Due.due("6 is not more than twice 3", x.borne(0, 20, 2), 0);
    }

    private static void promise33Count() {
        TenForOne x = Villages.ofWealth("rrr");
        x.person(3, -2000, 0, 0, false, -1);
        x.fair(1, 2);
        x.fair(1, 2);
        x.stay(3, 0, 10, 20);
        x.flees(0, 10);
        x.plea(0, 77);
        x.judge(50);
        x.dies(1, 60);
        int[] due = {1, 4, 2, 2, 1, 1, 0};
        for (int what = 0; what < 7; what++) {
            Due.due("count(" + what + ")", x.count(what), due[what]);
        }
        x.pays(2, 7);
        x.dies(2, 60);
        Due.due("lost", x.count(6), 70);
        Due.due("count(-1)", x.count(-1), BAD);
        Due.due("count(7)", x.count(7), BAD);
        Due.due("told of the dead", x.told(2, 5), 60);
        Due.due("none of the living", x.told(0, 5), NONE);
    }
}
