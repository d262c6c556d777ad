/** Edges that section 1 of the document names, beside those of PeopleTest, LawsTest, NumbersTest and RefusalsTest. */
final class Edges1PeopleTest {
    private static final int BAD = TenForOne.BAD, NOT = TenForOne.NOT, FULL = TenForOne.FULL, NONE = TenForOne.NONE;

    private Edges1PeopleTest() {
    }

    public static void main(String[] args) {
        flightsTillTheLastCall();
        spellsTillTheLastCall();
        objectsApart();
        fathers();
        kinOfAFatherOnly();
        agesInTheYear();
        firstAndLastDays();
        thereBetweenFlights();
        tapeOfForty();
        tapeIsEmptyThen();
        kindsNotTold();
        nightsTold();
        ageLawsHaveNoNights();
        agesBothEndsHold();
        theFirstByteThatCannotStand();
        Due.end();
    }

    /** "An object is used for at most 512 calls": till then none is refused for want of room. */
    private static void flightsTillTheLastCall() {
        TenForOne x = Villages.at(0);
        x.person(0, -2000, 0, 0, false, -1);
        int right = 0;
        for (int i = 0; i < 255; i++) {
            right += x.flees(0, 2 * i) == 1 && x.back(0, 2 * i + 1) == 1 ? 1 : 0;
        }
        Due.due("flights within 512 calls", right, 255);
        x = Villages.at(0);
        x.person(0, -2000, 0, 0, false, -1);
        for (int i = 0; i < 200; i++) {
            x.flees(0, 2 * i);
            x.back(0, 2 * i + 1);
        }
        for (int day : new int[] {0, 1, 2, 3, 200, 201, 396, 397, 398, 399}) {
            Due.due("200 flights, there on " + day, x.there(0, day), day % 2);
        }
    }

    private static void spellsTillTheLastCall() {
        TenForOne x = new TenForOne();
        x.house(0);
        Villages.groups(x, 2);
        x.person(0, -2000, 0, 0, false, -1);
        int right = 0;
        for (int i = 0; i < 254; i++) {
            right += x.joins(0, i % 2, i) == 1 && x.leaves(0, i + 1) == i % 2 ? 1 : 0;
        }
        Due.due("spells within 512 calls", right, 254);
        x = new TenForOne();
        x.house(0);
        Villages.groups(x, 2);
        x.person(0, -2000, 0, 0, false, -1);
        for (int i = 0; i < 200; i++) {
            x.joins(0, i % 2, i);
            x.leaves(0, i + 1);
        }
        for (int day : new int[] {0, 1, 100, 101, 198, 199}) {
            Due.due("200 spells, on " + day, x.groupOf(0, day), day % 2);
        }
        Due.due("200 spells, behind them", x.groupOf(0, 200), NONE);
    }

    /** "Nobody, nothing": whatever other objects hold. */
    private static void objectsApart() {
        TenForOne first = Twins.made(Villages::busy);
        TenForOne second = new TenForOne();
        Due.due("a second object has nobody", second.count(1), 0);
        Due.due("nor a tape", second.type('m', 1), 1);
        Due.due("the first has its own", first.type('0', 1), 2);
        Twins.alike("another object", Twins.made(x -> { }), new TenForOne());
    }

    /** "a FATHER (a MAN, CLERK, CHIEF's kin who came ahead, BORN 1200 DAYS ahead or more)": no more is asked. */
    private static void fathers() {
        TenForOne x = Villages.at(0);
        x.person(0, -9999, 0, 0, false, -1);
        x.dies(0, 0);
        Due.due("a father long dead", x.person(0, 9999, 0, 0, false, 0), 1);
        Due.due("a father BORN on the first day that can be", x.person(0, -8799, 0, 0, false, 0), 2);
        Due.due("a day less", x.person(0, -8800, 0, 0, false, 0), BAD);
        x.person(0, 8799, 0, 0, false, -1);
        Due.due("a child BORN on the last day", x.person(0, 9999, 0, 0, false, 3), 4);
        x.flees(2, 5);
        Due.due("a father who is away", x.person(0, 100, 0, 0, false, 2), 5);
        Due.due("told of the last", x.told(5, 4), 2);
        Due.due("nobody else came", x.count(1), 6);
    }

    /** "KIN are two, if one is the other's FATHER, or they have one FATHER": no name, no house makes them so. */
    private static void kinOfAFatherOnly() {
        TenForOne x = Villages.at(0);
        x.person(0, -9000, 7, 0, false, -1);
        x.person(2, -9000, 7, 0, false, -1);
        x.person(3, -5000, 7, 0, false, 0);
        x.person(1, -5000, 7, 0, false, 1);
        x.person(0, -5000, 8, 0, false, 1);
        Due.due("two who have no father", x.kin(0, 1), 0);
        Due.due("a stranger and his father", x.kin(2, 0), 1);
        Due.due("sons of two fathers", x.kin(2, 3), 0);
        Due.due("sons of one", x.kin(3, 4), 1);
        Due.due("the chief's kin and his son", x.kin(1, 4), 1);
        Due.due("the other's son", x.kin(0, 4), 0);
        x.dies(1, 0);
        Due.due("sons of a dead one", x.kin(4, 3), 1);
    }

    /** "a YEAR has 100", "Divisions are cut down". */
    private static void agesInTheYear() {
        TenForOne x = Villages.at(0);
        x.person(0, -1, 0, 0, false, -1);
        x.person(0, 9999, 0, 0, false, -1);
        Due.due("a day old", x.age(0, 0), 0);
        Due.due("99 days old", x.age(0, 98), 0);
        Due.due("100 days old", x.age(0, 99), 1);
        Due.due("199 days old", x.age(0, 198), 1);
        Due.due("200 days old", x.age(0, 199), 2);
        Due.due("BORN on the last day, a day ahead", x.age(1, 9998), NONE);
        Due.due("BORN on the last day", x.age(1, 9999), 0);
        x.dies(0, 50);
        Due.due("the dead have an age too", x.age(0, 99), 1);
    }

    /** DAYS are 0 .. 9999: what happens on the first and the last. */
    private static void firstAndLastDays() {
        TenForOne x = Villages.at(0);
        Villages.men(x, 4);
        Due.due("flees on day 0", x.flees(0, 0), 1);
        Due.due("there on day 0", x.there(0, 0), 0);
        Due.due("back on day 1", x.back(0, 1), 1);
        Due.due("flees on day 9999", x.flees(1, 9999), 1);
        Due.due("there the day ahead", x.there(1, 9998), 1);
        Due.due("there on day 9999", x.there(1, 9999), 0);
        Due.due("no day is behind it", x.back(1, 9999), NOT);
        Due.due("nor to die on", x.dies(1, 9999), NOT);
        x.flees(2, 0);
        Due.due("away from first to last", x.back(2, 9999), 9999);
        Due.due("there on the last day", x.there(2, 9999), 1);
        Due.due("not on the day ahead", x.there(2, 9998), 0);
        Due.due("dies on day 0", x.dies(3, 0), 0);
        Due.due("and is there on it", x.there(3, 0), 1);
        Due.due("not the day behind", x.there(3, 1), 0);
    }

    /** "not fled (on that DAY or ahead) without being BACK since (on that DAY or ahead)". */
    private static void thereBetweenFlights() {
        TenForOne x = Villages.at(0);
        Villages.men(x, 1);
        x.flees(0, 10);
        x.back(0, 12);
        x.flees(0, 13);
        x.back(0, 14);
        x.flees(0, 20);
        int[] due = {9, 1, 10, 0, 11, 0, 12, 1, 13, 0, 14, 1, 19, 1, 20, 0, 21, 0, 9999, 0};
        for (int i = 0; i < due.length; i += 2) {
            Due.due("there(0, " + due[i] + ")", x.there(0, due[i]), due[i + 1]);
        }
        x.dies(0, 30);
        Due.due("dead while away", x.there(0, 30), 0);
        Due.due("as ahead of it", x.there(0, 19), 1);
    }

    /** "FULL: 40", and "the end: how many bytes there are". */
    private static void tapeOfForty() {
        String good = "m1-2;c0-99;                    k0-99;s 1";
        Due.due("the length of the text", good.length(), 40);
        TenForOne x = new TenForOne();
        Due.due("forty bytes", Due.typed(x, good), 40);
        Due.due("one more", x.type('1', 1), FULL);
        Due.due("a number at the very end", x.laws(), 4);
        String open = "m1-2;c0-99;                         k10-";
        Due.due("a fault at the end of forty", Due.lawsOf(new TenForOne(), open), -60);
        String blanks = "                                        ";
        Due.due("forty blanks", Due.lawsOf(new TenForOne(), blanks), -60);
        Due.due("a fault at the last of forty", Due.lawsOf(new TenForOne(), blanks.substring(1) + "x"), -59);
        Due.due("a digit where none can stand, at the last of forty",
            Due.lawsOf(new TenForOne(), "s1" + blanks.substring(3) + "1"), -59);
        Due.due("a letter at the last of forty", Due.lawsOf(new TenForOne(), blanks.substring(1) + "m"), -60);
    }

    /** "THE TAPE, which is empty then": nothing of it is read again, be it laws or a fault. */
    private static void tapeIsEmptyThen() {
        TenForOne x = new TenForOne();
        Due.due("laws", Due.lawsOf(x, "m10-999"), -24);
        Due.due("shorter laws", Due.lawsOf(x, "m10-9"), -24);
        Due.due("s99", Due.lawsOf(x, "s99"), -21);
        Due.due("s9", Due.lawsOf(x, "s9"), 1);
        Due.due("m9-98", Due.lawsOf(x, "m9-98"), 1);
        Due.due("m9-9", Due.lawsOf(x, "m9-9"), 1);
        Due.due("nothing is left", x.laws(), -20);
        Due.due("it begins anew", x.type('m', 1), 1);
        Due.due("a fault", x.laws(), -21);
        Due.due("it begins anew behind a fault", x.type('m', 1), 1);
        x.house(0);
        x.person(0, -950, 0, 0, false, -1);
        x.person(0, -1000, 0, 0, false, -1);
        Due.due("m9-9 holds, not m9-98", x.must(0, 0), 1);
        Due.due("at ten years", x.must(1, 0), 0);
    }

    /** "of one not told: never", whatever earlier LAWS told. */
    private static void kindsNotTold() {
        String[] each = {"m0-99", "c0-99", "k0-99"};
        for (int told = 0; told < 3; told++) {
            TenForOne x = Villages.at(0);
            for (int kind = 0; kind < 3; kind++) {
                x.person(kind, -2000, 0, 0, false, -1);
            }
            for (int i = 0; i < 3; i++) {
                Due.lawsOf(x, "m0-99;c0-99;k0-99;s1");
            }
            Due.due("one clause", Due.lawsOf(x, each[told]), 1);
            for (int kind = 0; kind < 3; kind++) {
                Due.due(each[told] + " alone, kind " + kind, x.must(kind, 0), kind == told ? 1 : 0);
            }
            Due.due("nights alone", Due.lawsOf(x, "s1"), 1);
            for (int kind = 0; kind < 3; kind++) {
                Due.due("nights alone, kind " + kind, x.must(kind, 0), 0);
            }
        }
    }

    private static TenForOne withLodger() {
        TenForOne x = Villages.at(0, 0);
        Villages.men(x, 1);
        x.joins(0, 0, 0);
        x.person(3, -2000, 0, 0, false, -1);
        x.stay(1, 0, 10, 30);
        return x;
    }

    private static void firstNight(String told, TenForOne x, int night) {
        Due.due(told + ": night " + (night - 1), x.charged(1, 8 + night), NONE);
        Due.due(told + ": night " + night, x.charged(1, 9 + night), 0);
    }

    /** "a number of NIGHTS 1 .. 9 alone", "Of a KIND told twice the latter holds", "A FAULT: LAWS stay". */
    private static void nightsTold() {
        TenForOne x = withLodger();
        firstNight("at first", x, 3);
        for (int nights = 1; nights <= 9; nights++) {
            Due.lawsOf(x, "s" + nights);
            firstNight("s" + nights, x, nights);
        }
        Due.lawsOf(x, "s9;s2");
        firstNight("told twice, the less", x, 2);
        Due.lawsOf(x, "s2;m0-9;s4");
        firstNight("told twice, the more", x, 4);
        Due.due("a fault behind", Due.lawsOf(x, "s1;x"), -23);
        firstNight("as ahead of the fault", x, 4);
        Due.due("s0", Due.lawsOf(x, "s0"), -21);
        firstNight("as ahead of s0", x, 4);
    }

    /** "LAWS without s: never", though earlier ones had it. */
    private static void ageLawsHaveNoNights() {
        TenForOne x = withLodger();
        for (int i = 0; i < 3; i++) {
            Due.lawsOf(x, "m0-99;s1");
            Due.due("with s", x.charged(1, 10), 0);
            Due.lawsOf(x, "m0-99");
            Due.due("without s", x.charged(1, 30), NONE);
        }
    }

    /** "an AGE, -, an AGE (0 .. 99, the second no less)": both are of an AGE by the LAWS, the next are not. */
    private static void agesBothEndsHold() {
        TenForOne x = Villages.at(0);
        int[] ages = {0, 1, 12, 13, 98, 99};
        for (int age : ages) {
            x.person(0, -100 * age - 99, 0, 0, false, -1);
        }
        x.person(0, -9999, 0, 0, false, -1);
        String[] texts = {"m0-0", "m0-99", "m1-12", "m12-12", "m13-98", "m98-99", "m99-99"};
        String[] due = {"100000", "111111", "011000", "001000", "000110", "000011", "000001"};
        for (int i = 0; i < texts.length; i++) {
            Due.due(texts[i], Due.lawsOf(x, texts[i]), 1);
            for (int who = 0; who < ages.length; who++) {
                Due.due(texts[i] + ", age " + ages[who], x.must(who, 0), due[i].charAt(who) - '0');
            }
        }
        Due.due("age 99 on the day ahead of 100", x.must(6, 0), 1);
        Due.due("age 100", x.must(6, 1), 0);
    }

    /** "the place of the first byte (behind blanks) that can't stand there". */
    private static void theFirstByteThatCannotStand() {
        String[] texts = {
            "m1-2;  x", "m  ;", "m1  ;", "m1-  ;", "m1-2  c", " m1-2 ; c1-2 ; k1-2 ; m1-2 ; s1", "s  0", "s1  ;  ",
            "m1-2;m", "k", "c5", "c5-4", "c 50 - 49", "m0-100", "m 00100-1", "s9 9", "-", "9", ";m1-2", "m1-2:",
            "M", "S1", "~"
        };
        int[] places = {
            7, 3, 4, 5, 6, 27, 3, 7,
            6, 1, 2, 3, 7, 3, 2, 3, 0, 0, 0, 4,
            0, 0, 0
        };
        Due.due("the rows of the test are even", texts.length, places.length);
        for (int i = 0; i < texts.length; i++) {
            Due.due("laws of '" + texts[i] + "'", Due.lawsOf(new TenForOne(), texts[i]), -20 - places[i]);
        }
    }
}
