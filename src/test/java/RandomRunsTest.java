import java.util.ArrayList;
import java.util.List;
import java.util.Random;
import java.util.TreeMap;

/** Many runs of calls drawn by seeds, each answer beside that of Model; then long runs of wild numbers. */
final class RandomRunsTest {
    private static final String LAW_SIGNS = "mcksmcks;;;---0123456789 x";
    private static final String[] GOOD_LAWS = {"m12-60;k12-60;s3", "m0-99;c0-99;k0-99;s1", "m5-40;c10-90;s2", "s9;m0-99",
        "m0-99;c0-99", "m 12 - 60 ; s 4", "k0-99;m10-99;s5;s2"};

    /** Calls that a run makes often: else few runs would reach what is full. */
    private static final int[][] OFTEN = {{0, 1}, {14, 17}, {21, 22}, {14, 5, 6, 25, 5, 6, 25, 27},
        {14, 23, 15, 23}, {14, 5, 25, 27, 29, 4}, {14, 34, 35, 37}};

    private final Random random;
    private final TenForOne x = new TenForOne();
    private final Model m = new Model();
    private final List<String> calls = new ArrayList<>();
    private final TreeMap<String, Integer> answers;
    private final int span;
    private final int[] often;
    private int today;
    private boolean isRight = true;

    private RandomRunsTest(long seed, TreeMap<String, Integer> answers) {
        random = new Random(seed);
        this.answers = answers;
        span = new int[] {40, 300, 1500, 10000}[(int) (seed % 4)];
        often = OFTEN[(int) (seed / 4 % OFTEN.length)];
    }

    public static void main(String[] args) {
        TreeMap<String, Integer> answers = new TreeMap<>();
        for (long seed = 0; seed < 1500; seed++) {
            new RandomRunsTest(seed, answers).run();
        }
        everyAnswerCame(answers);
        for (long seed = 0; seed < 40; seed++) {
            wild(new Random(seed));
        }
        Due.end();
    }

    /** A run that never reaches an answer proves nothing about it. */
    private static void everyAnswerCame(TreeMap<String, Integer> answers) {
        String[] due = {"house ok", "house -1", "house -3", "person ok", "person -1", "person -3", "told ok", "told -1",
            "told -4", "age ok", "age -1", "age -4", "dies ok", "dies -1", "dies -2", "dies more", "flees ok", "flees -2",
            "back ok", "back -2", "there ok", "kin ok", "type ok", "type -3", "laws ok", "laws fault", "must ok", "must -12",
            "fair ok", "fair -3", "group ok", "group -3", "joins ok", "joins -12", "joins -2", "joins -3", "leaves ok",
            "leaves -2", "groupOf ok", "groupOf -4", "members more", "head more", "head -4", "wants more", "wantsAt ok",
            "wantsAt -1", "stay ok", "stay -12", "stay -2", "stay -3", "charged ok", "charged -12", "charged -4",
            "whole more", "whole -3", "whole -4", "came ok", "came -4", "plea ok", "plea -2", "plea -3", "about more",
            "judge more", "owes more", "pays more", "pays -2", "borne more", "count more", "sheet ok", "sheet -14",
            "drop ok", "drop -11", "item ok", "item -11", "item -12", "item -13", "roll more", "roll -11", "roll -12",
            "roll -2", "leftOut more", "leftOut -4", "sure ok", "sure -2", "sure -4"};
        for (String name : due) {
            Due.due("runs with " + name, answers.containsKey(name) ? 1 : 0, 1);
        }
    }

    private void run() {
        int setUp = random.nextInt(45);
        for (int i = 0; i < 3; i++) {
            calls(0);
            calls(13);
        }
        for (int i = 0; i < setUp; i++) {
            calls(1);
        }
        for (int i = calls.size(); i < 512 && isRight; i++) {
            calls(random.nextBoolean() ? random.nextInt(38) : often[random.nextInt(often.length)]);
        }
    }

    private void check(String name, String arguments, int got, int want) {
        calls.add(name + "(" + arguments + ") " + got);
        answers.merge(name + (want >= 0 ? " ok" : want <= -20 ? " fault" : " " + want), 1, Integer::sum);
        if (want > 0) {
            answers.merge(name + " more", 1, Integer::sum);
        }
        if (got != want && isRight) {
            isRight = false;
            System.out.println("a run of " + calls.size() + " calls: " + calls);
        }
        Due.due(name + "(" + arguments + ")", got, want);
    }

    private int upTo(int n) {
        return random.nextInt(40) == 0 ? random.nextInt(2) * (n + 1) - random.nextInt(2) : random.nextInt(n + 1);
    }

    private int one() {
        return upTo(Math.max(0, m.people.size() - 1));
    }

    private int oneOf(boolean strangers) {
        for (int tries = 0; tries < 5 && !m.people.isEmpty(); tries++) {
            int who = random.nextInt(m.people.size());
            if (m.people.get(who).kind == 3 == strangers) {
                return who;
            }
        }
        return one();
    }

    private int memberOn(int day, int other) {
        for (int tries = 0; tries < 8 && !m.people.isEmpty(); tries++) {
            int who = random.nextInt(m.people.size());
            if (m.spell(who, day) != null) {
                return who;
            }
        }
        return other;
    }

    /** Mostly about a day that goes on, as much is refused that lies behind. */
    private int day() {
        if (random.nextInt(200) == 0) {
            return 10000;
        }
        if (random.nextInt(6) == 0) {
            return random.nextInt(30) == 0 ? upTo(9999) : random.nextInt(span);
        }
        today = Math.min(span - 1, today + random.nextInt(1 + span / 200));
        return Math.max(0, today - random.nextInt(3));
    }

    private int house() {
        return upTo(Math.max(0, m.houses.size() - 1));
    }

    private int group() {
        return random.nextInt(3) == 0 ? 0 : upTo(Math.max(0, m.groups.size() - 1));
    }

    private int born() {
        return random.nextInt(8) == 0 ? random.nextInt(20200) - 10100 : -random.nextInt(7000);
    }

    private void calls(int which) {
        if (which < 13) {
            people(which);
        } else if (which < 25) {
            groups(which);
        } else if (which < 32) {
            pleas(which);
        } else {
            rolls(which);
        }
    }

    private void people(int which) {
        int who = one();
        int day = day();
        switch (which) {
            case 0: {
                int lane = upTo(99);
                check("house", "" + lane, x.house(lane), m.house(lane));
                break;
            }
            case 1: {
                int kind = random.nextBoolean() ? 0 : upTo(3);
                int born = born();
                int name = random.nextBoolean() ? upTo(39) : random.nextInt(3);
                int house = house();
                boolean poor = random.nextInt(3) > 0;
                int father = random.nextBoolean() ? -1 : one();
                check("person", kind + ", " + born + ", " + name + ", " + house + ", " + poor + ", " + father,
                    x.person(kind, born, name, house, poor, father), m.person(kind, born, name, house, poor, father));
                break;
            }
            case 2: {
                int what = upTo(5);
                check("told", who + ", " + what, x.told(who, what), m.told(who, what));
                break;
            }
            case 3: check("age", who + ", " + day, x.age(who, day), m.age(who, day)); break;
            case 4:
                if (random.nextInt(4) == 0) check("dies", who + ", " + day, x.dies(who, day), m.dies(who, day));
                break;
            case 5: who = memberOn(day - 1, who); check("flees", who + ", " + day, x.flees(who, day), m.flees(who, day)); break;
            case 6: back(who, day); break;
            case 7: check("there", who + ", " + day, x.there(who, day), m.there(who, day)); break;
            case 8: check("kin", who + ", " + day, x.kin(who, day % 48), m.kin(who, day % 48)); break;
            case 9:
            case 10:
            case 11: laws(); break;
            default: check("must", who + ", " + day, x.must(who, day), m.must(who, day)); break;
        }
    }

    /** Of those who are away, and near to the day of flight, as a day drawn at will is seldom behind it. */
    private void back(int who, int day) {
        for (int i = 0; i < m.people.size() && random.nextInt(4) > 0; i++) {
            Model.One o = m.people.get(i);
            if (m.away(o) && random.nextBoolean()) {
                who = i;
                day = m.latest(o) + random.nextInt(45);
            }
        }
        check("back", who + ", " + day, x.back(who, day), m.back(who, day));
    }

    private void laws() {
        StringBuilder text = new StringBuilder(GOOD_LAWS[random.nextInt(GOOD_LAWS.length)]);
        for (int edits = random.nextInt(3); edits > 0; edits--) {
            int at = random.nextInt(text.length());
            char sign = LAW_SIGNS.charAt(random.nextInt(LAW_SIGNS.length()));
            switch (random.nextInt(3)) {
                case 0: text.setCharAt(at, sign); break;
                case 1: text.insert(at, sign); break;
                default: text.deleteCharAt(at); break;
            }
        }
        if (random.nextInt(12) == 0) {
            text.append("                                      ");
        }
        for (int from = 0; from < text.length(); from += 8) {
            String part = text.substring(from, Math.min(text.length(), from + 8));
            long w = random.nextInt(2);
            for (char sign : part.toCharArray()) {
                w = w << 8 | sign;
            }
            check("type", "'" + part + "'", x.type(w, part.length()), m.type(w, part.length()));
        }
        check("laws", "", x.laws(), m.laws());
    }

    private void groups(int which) {
        int who = one();
        int day = day();
        int group = group();
        int what = upTo(1);
        switch (which) {
            case 13: {
                int lane = upTo(99);
                check("group", "" + lane, x.group(lane), m.group(lane));
                break;
            }
            case 14: who = oneOf(random.nextInt(20) == 0); check("joins", who + ", " + group + ", " + day, x.joins(who, group, day), m.joins(who, group, day)); break;
            case 15: check("leaves", who + ", " + day, x.leaves(who, day), m.leaves(who, day)); break;
            case 16: check("groupOf", who + ", " + day, x.groupOf(who, day), m.groupOf(who, day)); break;
            case 17: check("members", group + ", " + day, x.members(group, day), m.members(group, day)); break;
            case 18: check("head", group + ", " + day, x.head(group, day), m.head(group, day)); break;
            case 19: check("wants", day + ", " + what, x.wants(day, what), m.wants(day, what)); break;
            case 20: {
                int i = upTo(8);
                check("wantsAt", day + ", " + what + ", " + i, x.wantsAt(day, what, i), m.wantsAt(day, what, i));
                break;
            }
            case 21: {
                who = oneOf(random.nextInt(10) > 0);
                int to = day + (random.nextInt(4) == 0 ? upTo(span / 2) : random.nextInt(4));
                int house = house();
                check("stay", who + ", " + house + ", " + day + ", " + to, x.stay(who, house, day, to), m.stay(who, house, day, to));
                break;
            }
            case 22: {
                who = oneOf(random.nextInt(10) > 0);
                check("charged", who + ", " + day, x.charged(who, day), m.charged(who, day));
                int to = day + upTo(5);
                if (random.nextInt(6) == 0) check("fair", day + ", " + to, x.fair(day, to), m.fair(day, to));
                break;
            }
            case 23: check("whole", "" + day, x.whole(day), m.whole(day)); break;
            default: check("came", "" + who, x.came(who), m.came(who)); break;
        }
    }

    private void pleas(int which) {
        int who = one();
        int day = day();
        switch (which) {
            case 25: plea(who); break;
            case 26: {
                int plea = upTo(Math.max(0, m.pleas.size() - 1));
                int what = upTo(5);
                check("about", plea + ", " + what, x.about(plea, what), m.about(plea, what));
                break;
            }
            case 27: check("judge", "" + day, x.judge(day), m.judge(day)); break;
            case 28: {
                int plea = random.nextInt(4) == 0 ? -1 : upTo(m.pleas.size());
                check("owes", who + ", " + plea, x.owes(who, plea), m.owes(who, plea));
                break;
            }
            case 29: {
                int amount = random.nextInt(10) == 0 ? upTo(99999) : upTo(60);
                check("pays", who + ", " + amount, x.pays(who, amount), m.pays(who, amount));
                break;
            }
            case 30: {
                int group = group();
                int what = upTo(2);
                check("borne", group + ", " + day + ", " + what, x.borne(group, day, what), m.borne(group, day, what));
                break;
            }
            default: {
                int what = upTo(6);
                check("count", "" + what, x.count(what), m.count(what));
                break;
            }
        }
    }

    private void plea(int who) {
        for (int i = 0; i < m.people.size() && random.nextInt(4) > 0; i++) {
            if (!m.people.get(i).flights.isEmpty() && random.nextBoolean()) {
                who = i;
            }
        }
        int fine = random.nextBoolean() ? upTo(9999) : upTo(100);
        check("plea", who + ", " + fine, x.plea(who, fine), m.plea(who, fine));
    }

    private void rolls(int which) {
        int sheet = upTo(3);
        int lane = upTo(2);
        switch (which) {
            case 32: {
                int n = random.nextInt(6) == 0 ? -1 - random.nextInt(3) : upTo(20);
                check("sheet", sheet + ", " + lane + ", " + n, x.sheet(sheet, lane, n), m.sheet(sheet, lane, n));
                break;
            }
            case 33:
                if (random.nextInt(3) == 0) check("drop", "" + sheet, x.drop(sheet), m.drop(sheet));
                break;
            case 34: {
                int i = upTo(12);
                int v = random.nextInt(8) == 0 ? random.nextInt() : upTo(39);
                check("item", sheet + ", " + lane + ", " + i + ", " + v, x.item(sheet, lane, i, v), m.item(sheet, lane, i, v));
                break;
            }
            case 35: {
                int group = group();
                int day = day();
                check("roll", group + ", " + day + ", " + sheet + ", " + lane, x.roll(group, day, sheet, lane),
                    m.roll(group, day, sheet, lane));
                break;
            }
            case 36: {
                int name = random.nextBoolean() ? upTo(39) : random.nextInt(3);
                check("leftOut", "" + name, x.leftOut(name), m.leftOut(name));
                break;
            }
            default: {
                int who = one();
                check("sure", "" + who, x.sure(who), m.sure(who));
                break;
            }
        }
    }

    /** Far more than 512 calls, with any numbers: none may throw. */
    private static void wild(Random random) {
        TenForOne x = new TenForOne();
        for (int i = 0; i < 20000; i++) {
            int a = number(random);
            int b = number(random);
            int c = number(random);
            int d = number(random);
            switch (random.nextInt(19)) {
                case 0: x.house(a); x.group(b); break;
                case 1: x.person(a, b, c, d, random.nextBoolean(), number(random)); break;
                case 2: x.told(a, b); x.age(a, b); break;
                case 3: if (random.nextInt(100) == 0) x.dies(a, b); break;
                case 4: x.flees(a, b); x.back(a, b + 1); break;
                case 5: x.there(a, b); x.kin(a, b); break;
                case 6: x.type(random.nextLong(), b); x.type(0x6d302d39393b7331L, b); break;
                case 7: x.laws(); x.must(a, b); break;
                case 8: x.fair(a, b); x.charged(a, b); break;
                case 9: x.joins(a, b, c); break;
                case 10: x.leaves(a, b); x.groupOf(a, b); break;
                case 11: x.members(a, b); x.head(a, b); break;
                case 12: x.wants(a, b); x.wantsAt(a, b, c); break;
                case 13: x.stay(a, b, c, d); x.whole(a); x.came(a); break;
                case 14: x.plea(a, b); x.about(a, b); x.judge(a); break;
                case 15: x.owes(a, b); x.pays(a, b); break;
                case 16: x.borne(a, b, c); x.count(a); break;
                case 17: x.sheet(a, b, c); if (random.nextInt(5) == 0) x.drop(a); x.item(a, b, c, d); break;
                default: x.roll(a, b, c, d); x.leftOut(a); x.sure(a); break;
            }
        }
        Due.due("wild numbers: houses", x.count(0) <= 20 ? 1 : 0, 1);
    }

    private static int number(Random random) {
        switch (random.nextInt(12)) {
            case 0: return Integer.MIN_VALUE + random.nextInt(3);
            case 1: return Integer.MAX_VALUE - random.nextInt(3);
            case 2: return random.nextInt(20002) - 10001;
            case 3: return -random.nextInt(4000);
            case 4: return random.nextInt(101);
            case 5: return random.nextInt(48);
            default: return random.nextInt(4);
        }
    }
}
