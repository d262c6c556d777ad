/** Promises 11 to 14: the tape, laws, who must be sworn, fairs. */
final class LawsTest {
    private static final int BAD = TenForOne.BAD, FULL = TenForOne.FULL, NONE = TenForOne.NONE, CAST = TenForOne.CAST;

    public static void main(String[] args) {
        promise11Type();
        promise11Full();
        promise12Faults();
        promise12Clauses();
        promise12Keeps();
        promise13Must();
        promise14Fair();
        Due.end();
    }

    private static void promise11Type() {
        TenForOne x = new TenForOne();
        Due.due("n 0", x.type('m', 0), BAD);
        Due.due("n 9", x.type('m', 9), BAD);
        Due.due("n -1", x.type('m', -1), BAD);
        Due.due("n 2^31-1", x.type('m', Integer.MAX_VALUE), BAD);
        Due.due("byte 31", x.type(31, 1), BAD);
        Due.due("byte 127", x.type(127, 1), BAD);
        Due.due("byte 255", x.type(-1, 1), BAD);
        Due.due("byte 0 above", x.type('m', 2), BAD);
        Due.due("byte 0 below", x.type('m' << 8, 2), BAD);
        Due.due("what is above does not count", x.type(0xFF00000000000000L | 's', 1), 1);
        Due.due("32 and 126", x.type(32 << 8 | 126, 2), 3);
        Due.due("highest first", x.laws(), -22);
        Due.due("s9", x.type('s' << 8 | '9', 2), 2);
        Due.due("s9 is read", x.laws(), 1);
    }

    private static void promise11Full() {
        TenForOne x = new TenForOne();
        Due.due("33 bytes", Due.typed(x, "m1-2;m1-2;m1-2;m1-2              "), 33);
        Due.due("8 more", x.type(0x2020202020202020L, 8), FULL);
        Due.due("BAD ahead of FULL", x.type(0x2020202020202000L, 8), BAD);
        Due.due("7 more", x.type(0x20202020202020L, 7), 40);
        Due.due("1 more", x.type(32, 1), FULL);
        Due.due("all is read", x.laws(), 4);
        Due.due("empty then", x.type(32, 1), 1);
    }

    private static void promise12Faults() {
        String[] texts = {
            "", "   ", "x", " x", "M1-2", "m", "m ", "m-", "mm", "m1", "m1 2-3", "m1;", "m1-", "m1--", "m1-x", "m1-2x",
            "m1-2 x", "m1-2 3", "m1-2;", "m1-2; ", "m1-2;;", ";", "m100-100", "m 100-1", "m5-4", "m5- 4", "m5-100",
            "m99999999999999999999999-1", "m1-99999999999999999999999", "m4294967297-4294967299", "s", "s0", "s10",
            "s 10", "s1-2", "s1 2", "s4294967297", "s-1", "m-1-2", "m1-2;m1-2;m1-2;m1-2;", "m1-2;s1;s2;s3;s4",
            "m1-2;s1;s2;s3 ;s4", "s1;s2;s3;s4x", "m1-2;s1;k", "m1-2;s1;k9-8", "m1-2,s1", "m1 -2 ;", "1-2", "m1-2m1-2"
        };
        int[] places = {
            0, 3, 0, 1, 0, 1, 2, 1, 1, 2, 3, 2, 3, 3, 3, 4,
            5, 5, 5, 6, 5, 0, 1, 2, 3, 4, 3,
            1, 3, 1, 1, 1, 1,
            2, 2, 3, 1, 1, 1, 19, 13,
            14, 11, 9, 11, 4, 7, 0, 4
        };
        Due.due("the rows of the test are even", texts.length, places.length);
        for (int i = 0; i < texts.length; i++) {
            TenForOne x = new TenForOne();
            Due.due("laws of '" + texts[i] + "'", Due.lawsOf(x, texts[i]), -20 - places[i]);
            Due.due("empty behind '" + texts[i] + "'", x.laws(), -20);
        }
    }

    private static void promise12Clauses() {
        String[] texts = {"m0-0", "m99-99", "m0-99;c0-99", "s1;s9;s1", "m1-2;c1-2;k1-2;s1", "m1-2;m1-2;m1-2;m1-2",
            "  m  1  -  2  ;  s  3  ", "m012-060", "s03"};
        int[] clauses = {1, 1, 2, 3, 4, 4, 2, 1, 1};
        for (int i = 0; i < texts.length; i++) {
            Due.due("laws of '" + texts[i] + "'", Due.lawsOf(new TenForOne(), texts[i]), clauses[i]);
        }
    }

    private static void promise12Keeps() {
        TenForOne x = Villages.at(0);
        x.person(0, -2000, 0, 0, false, -1);
        x.person(1, -2000, 0, 0, false, -1);
        Due.due("a fault late", Due.lawsOf(x, "c0-99;m30-40;x"), -33);
        Due.due("man as at first", x.must(0, 0), 1);
        Due.due("clerk as at first", x.must(1, 0), 0);
        Due.due("good laws", Due.lawsOf(x, "c0-99;m30-40"), 2);
        Due.due("man by the new", x.must(0, 0), 0);
        Due.due("clerk by the new", x.must(1, 0), 1);
        Due.due("a kind told twice", Due.lawsOf(x, "m0-9;m20-20;m30-40;m0-20"), 4);
        Due.due("the latter holds", x.must(0, 0), 1);
        Due.due("one not told: never", x.must(1, 0), 0);
        Due.due("a fault", Due.lawsOf(x, "c0-99;"), -26);
        Due.due("the latter still holds", x.must(0, 0), 1);
        Due.due("clerk still never", x.must(1, 0), 0);
        for (int i = 0; i < 2; i++) {
            Due.due("clerks alone", Due.lawsOf(x, "c0-99"), 1);
            Due.due("clerks alone: a man", x.must(0, 0), 0);
            Due.due("clerks alone: a clerk", x.must(1, 0), 1);
            Due.due("men alone", Due.lawsOf(x, "m0-99"), 1);
            Due.due("men alone: a man", x.must(0, 0), 1);
            Due.due("men alone: a clerk", x.must(1, 0), 0);
        }
    }

    private static void promise13Must() {
        TenForOne x = Villages.at(0);
        x.person(0, 0, 0, 0, false, -1);
        x.person(2, 0, 0, 0, false, -1);
        x.person(3, 0, 0, 0, false, -1);
        Due.lawsOf(x, "m2-3;k4-4;c0-99");
        int[][] due = {{0, 0, 0}, {199, 0, 0}, {200, 1, 0}, {399, 1, 0}, {400, 0, 1}, {499, 0, 1}, {500, 0, 0}};
        for (int[] row : due) {
            Due.due("man on " + row[0], x.must(0, row[0]), row[1]);
            Due.due("kin on " + row[0], x.must(1, row[0]), row[2]);
        }
        Due.due("a stranger", x.must(2, 200), CAST);
        Due.due("BAD ahead of CAST", x.must(2, 10000), BAD);
        Due.due("day -1", x.must(0, -1), BAD);
        Due.due("who 3", x.must(3, 0), BAD);
        x.flees(0, 250);
        Due.due("the day ahead of flight", x.must(0, 249), 1);
        Due.due("away", x.must(0, 250), 0);
        x.back(0, 260);
        x.dies(0, 270);
        Due.due("back", x.must(0, 260), 1);
        Due.due("the day of death", x.must(0, 270), 1);
        Due.due("dead", x.must(0, 271), 0);
        x.person(0, 50, 0, 0, false, -1);
        Due.lawsOf(x, "m0-0");
        Due.due("not born, though 0 is told", x.must(3, 49), 0);
        Due.due("born", x.must(3, 50), 1);
    }

    private static void promise14Fair() {
        TenForOne x = new TenForOne();
        Due.due("from -1", x.fair(-1, 5), BAD);
        Due.due("to 10000", x.fair(5, 10000), BAD);
        Due.due("to ahead of from", x.fair(5, 4), BAD);
        for (int i = 0; i < 9; i++) {
            Due.due("fair " + i, x.fair(i == 0 ? 0 : 7, i == 0 ? 9999 : 7), i);
        }
        Due.due("fair 9", x.fair(0, 1), FULL);
        Due.due("BAD ahead of FULL", x.fair(1, 0), BAD);
        Due.due("count(3)", x.count(3), 9);
        x.house(0);
        x.group(0);
        x.person(0, -2000, 0, 0, false, -1);
        x.person(3, -2000, 0, 0, false, -1);
        x.joins(0, 0, 0);
        x.stay(1, 0, 0, 9999);
        Due.due("all days are in a fair", x.charged(1, 9999), NONE);
    }
}
