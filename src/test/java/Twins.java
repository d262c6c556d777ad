import java.util.ArrayList;
import java.util.List;

/** Two objects made by the same calls: a call that is refused on one of them must leave them alike. */
final class Twins {
    private static final int[] DAYS = {0, 4, 5, 8, 15, 21, 65, 80, 100, 9999};
    // With what made the object it serves no more than the 512 calls that are promised.
    private static final int MOST_ASKED = 400;

    interface Making {
        void of(TenForOne x);
    }

    interface Call {
        int on(TenForOne x);
    }

    private final TenForOne x;
    private final List<String> answers = new ArrayList<>();

    private Twins(TenForOne x) {
        this.x = x;
    }

    static TenForOne made(Making making) {
        TenForOne x = new TenForOne();
        making.of(x);
        return x;
    }

    /** The call answers what is due, and all that can be asked later is answered as without it. */
    static void refused(String told, Making making, int due, Call call) {
        TenForOne touched = made(making);
        Due.due(told, call.on(touched), due);
        alike(told, touched, made(making));
    }

    static void alike(String told, TenForOne touched, TenForOne other) {
        List<String> got = new Twins(touched).all();
        List<String> want = new Twins(other).all();
        int same = 0;
        while (same < Math.min(got.size(), want.size()) && got.get(same).equals(want.get(same))) {
            same++;
        }
        boolean isSame = got.equals(want) && got.size() <= MOST_ASKED;
        String what = isSame ? "" : ": " + at(got, same) + ", not " + at(want, same);
        Due.due(told + " changed nothing" + what, isSame ? 1 : 0, 1);
    }

    private static String at(List<String> answers, int i) {
        return i < answers.size() ? answers.get(i) : "nothing";
    }

    private void ask(String call, int answer) {
        answers.add(call + " " + answer);
    }

    private List<String> all() {
        counts();
        for (int who : some(x.count(1))) {
            person(who);
        }
        for (int group : some(x.count(2))) {
            group(group);
        }
        for (int plea : some(x.count(5))) {
            plea(plea);
        }
        wants();
        rolls();
        lastDay();
        counts();
        tape();
        return answers;
    }

    /** All of a few; of many the first and the last. */
    private static List<Integer> some(int count) {
        List<Integer> numbers = new ArrayList<>();
        for (int i = 0; i < count; i++) {
            if (count < 10 || i < 4 || i >= count - 2) {
                numbers.add(i);
            }
        }
        return numbers;
    }

    private void counts() {
        for (int what = 0; what <= 6; what++) {
            ask("count(" + what + ")", x.count(what));
        }
    }

    private void person(int who) {
        ask("told(" + who + ", 5)", x.told(who, 5));
        ask("came(" + who + ")", x.came(who));
        ask("sure(" + who + ")", x.sure(who));
        ask("owes(" + who + ", -1)", x.owes(who, -1));
        ask("must(" + who + ", 5)", x.must(who, 5));
        boolean isStranger = x.told(who, 0) == 3;
        for (int day : DAYS) {
            ask("there(" + who + ", " + day + ")", x.there(who, day));
            String call = isStranger ? "charged(" : "groupOf(";
            ask(call + who + ", " + day + ")", isStranger ? x.charged(who, day) : x.groupOf(who, day));
        }
    }

    private void group(int group) {
        for (int day : new int[] {5, 8, 100}) {
            ask("members(" + group + ", " + day + ")", x.members(group, day));
        }
        ask("head(" + group + ", 8)", x.head(group, 8));
        for (int what = 0; what < 3; what++) {
            ask("borne(" + group + ", 8, " + what + ")", x.borne(group, 8, what));
        }
    }

    private void plea(int plea) {
        for (int what = 2; what < 6; what++) {
            ask("about(" + plea + ", " + what + ")", x.about(plea, what));
        }
        ask("owes(0, " + plea + ")", x.owes(0, plea));
        ask("owes(1, " + plea + ")", x.owes(1, plea));
    }

    private void wants() {
        for (int day : new int[] {0, 5, 8}) {
            ask("wants(" + day + ", 0)", x.wants(day, 0));
            ask("wants(" + day + ", 1)", x.wants(day, 1));
        }
    }

    private void leftOut() {
        for (int name : new int[] {0, 1, 2, 39}) {
            ask("leftOut(" + name + ")", x.leftOut(name));
        }
    }

    private void rolls() {
        leftOut();
        for (int sheet = 0; sheet < 4; sheet++) {
            for (int lane = 0; lane < 3; lane++) {
                int answer = x.roll(0, 8, sheet, lane);
                ask("roll(0, 8, " + sheet + ", " + lane + ")", answer);
                if (answer >= 0) {
                    leftOut();
                }
            }
            ask("drop(" + sheet + ")", x.drop(sheet));
        }
    }

    /** What only shows as days go by: who is away, what waits, what the dead owed. */
    private void lastDay() {
        ask("judge(9997)", x.judge(9997));
        for (int who : some(x.count(1))) {
            ask("owes(" + who + ", -1)", x.owes(who, -1));
            ask("back(" + who + ", 9998)", x.back(who, 9998));
            ask("leaves(" + who + ", 9999)", x.leaves(who, 9999));
        }
        ask("whole(9999)", x.whole(9999));
        for (int who : some(x.count(1))) {
            ask("came(" + who + ")", x.came(who));
            ask("dies(" + who + ", 9999)", x.dies(who, 9999));
        }
    }

    private void tape() {
        ask("type(32, 1)", x.type(32, 1));
        ask("laws()", x.laws());
    }
}
