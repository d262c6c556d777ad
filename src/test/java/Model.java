import java.util.ArrayList;
import java.util.List;
import java.util.Map;
import java.util.TreeMap;

/** The document once more, day by day and way by way, with no thought of cost: for RandomRunsTest. */
final class Model {
    static final int BAD = -1, NOT = -2, FULL = -3, NONE = -4, NULL = -11, CAST = -12, INDEX = -13, SIZE = -14;

    static final class One {
        int kind, born, name, house, father, death = NONE, came = NONE;
        boolean poor;
        List<int[]> flights = new ArrayList<>();
        List<int[]> spells = new ArrayList<>();
    }

    static final class Case {
        int who, group, fine, state;
        int[] flight;
        boolean some;
        List<Integer> answer = new ArrayList<>();
        Map<Integer, Integer> debt = new TreeMap<>();
    }

    final List<Integer> houses = new ArrayList<>();
    final List<Integer> groups = new ArrayList<>();
    final List<One> people = new ArrayList<>();
    final List<int[]> fairs = new ArrayList<>();
    final List<int[]> stays = new ArrayList<>();
    final List<Case> pleas = new ArrayList<>();
    final Object[] sheets = new Object[4];
    String tape = "";
    Map<Character, int[]> laws = new TreeMap<>(Map.of('m', new int[] {12, 60}, 'k', new int[] {12, 60}, 's', new int[] {3}));
    int lost;
    List<Integer> rollNames;
    List<Integer> rollMembers;

    static boolean day(int d) {
        return d >= 0 && d < 10000;
    }

    boolean who(int w) {
        return w >= 0 && w < people.size();
    }

    int house(int lane) {
        if (lane < 0 || lane > 99) return BAD;
        if (houses.size() == 20) return FULL;
        houses.add(lane);
        return houses.size() - 1;
    }

    int person(int kind, int born, int name, int house, boolean poor, int father) {
        if (kind < 0 || kind > 3 || born < -9999 || born > 9999 || name < 0 || name > 39) return BAD;
        if (house < 0 || house >= houses.size()) return BAD;
        if (father != -1 && (!who(father) || people.get(father).kind == 3 || born - people.get(father).born < 1200)) return BAD;
        if (people.size() == 48) return FULL;
        One one = new One();
        one.kind = kind;
        one.born = born;
        one.name = name;
        one.house = house;
        one.poor = poor;
        one.father = father;
        people.add(one);
        return people.size() - 1;
    }

    int told(int w, int what) {
        if (!who(w) || what < 0 || what > 5) return BAD;
        One o = people.get(w);
        return new int[] {o.kind, o.name, o.house, o.poor ? 1 : 0, o.father == -1 ? NONE : o.father, o.death}[what];
    }

    int age(int w, int d) {
        if (!who(w) || !day(d)) return BAD;
        return d < people.get(w).born ? NONE : (d - people.get(w).born) / 100;
    }

    boolean away(One o) {
        return !o.flights.isEmpty() && o.flights.get(o.flights.size() - 1)[1] == -1;
    }

    int latest(One o) {
        int latest = -1;
        for (int[] f : o.flights) latest = Math.max(latest, Math.max(f[0], f[1]));
        return latest;
    }

    int dies(int w, int d) {
        if (!who(w) || !day(d)) return BAD;
        One o = people.get(w);
        if (o.death != NONE || d <= latest(o) || d < o.born) return NOT;
        int owed = owes(w, -1);
        o.death = d;
        for (Case c : pleas) {
            int debt = c.debt.getOrDefault(w, 0);
            c.debt.remove(w);
            if (debt > 0) part(c, debt);
        }
        return owed;
    }

    int flees(int w, int d) {
        if (!who(w) || !day(d)) return BAD;
        One o = people.get(w);
        if (o.death != NONE || away(o) || d <= latest(o) || d < o.born) return NOT;
        o.flights.add(new int[] {d, -1});
        return 1;
    }

    int back(int w, int d) {
        if (!who(w) || !day(d)) return BAD;
        One o = people.get(w);
        if (!away(o) || o.death != NONE || d <= latest(o)) return NOT;
        int[] f = o.flights.get(o.flights.size() - 1);
        f[1] = d;
        return d - f[0];
    }

    boolean isThere(int w, int d) {
        One o = people.get(w);
        if (d < o.born || o.death != NONE && d > o.death) return false;
        for (int[] f : o.flights) if (f[0] <= d && (f[1] == -1 || d < f[1])) return false;
        return true;
    }

    int there(int w, int d) {
        if (!who(w) || !day(d)) return BAD;
        return isThere(w, d) ? 1 : 0;
    }

    int kin(int a, int b) {
        if (!who(a) || !who(b) || a == b) return BAD;
        int f = people.get(a).father;
        int g = people.get(b).father;
        return f == b || g == a || f == g && f != -1 ? 1 : 0;
    }

    int type(long w, int n) {
        if (n < 1 || n > 8) return BAD;
        String text = "";
        for (int i = 0; i < n; i++) {
            int b = (int) (w & 255);
            w >>>= 8;
            if (b < 32 || b > 126) return BAD;
            text = (char) b + text;
        }
        if (tape.length() + n > 40) return FULL;
        tape += text;
        return tape.length();
    }

    /** By tokens: a sign, or all of a number; {text, place}. */
    int laws() {
        List<Object[]> tokens = new ArrayList<>();
        for (int i = 0; i < tape.length(); i++) {
            if (tape.charAt(i) == ' ') continue;
            int from = i;
            while (Character.isDigit(tape.charAt(from)) && i + 1 < tape.length() && Character.isDigit(tape.charAt(i + 1))) i++;
            tokens.add(new Object[] {tape.substring(from, i + 1), from});
        }
        tokens.add(new Object[] {"", tape.length()});
        tape = "";
        Map<Character, int[]> read = new TreeMap<>();
        int at = 0;
        for (int clause = 1;; clause++) {
            String letter = (String) tokens.get(at)[0];
            if (!letter.matches("[mcks]")) return -20 - (int) tokens.get(at)[1];
            at++;
            int low = letter.equals("s") ? 1 : 0;
            int high = letter.equals("s") ? 9 : 99;
            List<Integer> numbers = new ArrayList<>();
            for (int k = 0; k < (letter.equals("s") ? 1 : 2); k++) {
                if (k == 1) {
                    if (!tokens.get(at)[0].equals("-")) return -20 - (int) tokens.get(at)[1];
                    at++;
                }
                String number = (String) tokens.get(at)[0];
                if (!number.matches("[0-9]+") || new java.math.BigInteger(number).bitLength() > 20) return -20 - (int) tokens.get(at)[1];
                int value = Integer.parseInt(number);
                if (value < low || value > high) return -20 - (int) tokens.get(at)[1];
                numbers.add(value);
                low = value;
                at++;
            }
            read.put(letter.charAt(0), numbers.stream().mapToInt(i -> i).toArray());
            if (tokens.get(at)[0].equals("")) {
                laws = read;
                return clause;
            }
            if (clause == 4 || !tokens.get(at)[0].equals(";")) return -20 - (int) tokens.get(at)[1];
            at++;
        }
    }

    boolean isBound(int w, int d) {
        One o = people.get(w);
        int[] ages = o.kind == 3 ? null : laws.get("mck".charAt(o.kind));
        int age = age(w, d);
        return ages != null && isThere(w, d) && age >= ages[0] && age <= ages[1];
    }

    int must(int w, int d) {
        if (!who(w) || !day(d)) return BAD;
        if (people.get(w).kind == 3) return CAST;
        return isBound(w, d) ? 1 : 0;
    }

    int fair(int from, int to) {
        if (!day(from) || !day(to) || to < from) return BAD;
        if (fairs.size() == 9) return FULL;
        fairs.add(new int[] {from, to});
        return fairs.size() - 1;
    }

    int group(int lane) {
        if (lane < 0 || lane > 99) return BAD;
        if (groups.size() == 8) return FULL;
        groups.add(lane);
        return groups.size() - 1;
    }

    boolean free(int w, int d) {
        for (int[] s : people.get(w).spells) if (s[2] == -1 || s[2] > d) return false;
        return true;
    }

    int[] spell(int w, int d) {
        for (int[] s : people.get(w).spells) if (s[1] <= d && (s[2] == -1 || d < s[2]) && isThere(w, d)) return s;
        return null;
    }

    List<Integer> memberList(int g, int d) {
        List<Integer> list = new ArrayList<>();
        for (int i = 0; i < people.size(); i++) {
            int[] s = spell(i, d);
            if (s != null && s[0] == g) list.add(i);
        }
        return list;
    }

    int joins(int w, int g, int d) {
        if (!who(w) || g < 0 || g >= groups.size() || !day(d)) return BAD;
        if (people.get(w).kind == 3) return CAST;
        if (!isThere(w, d) || !free(w, d)) return NOT;
        if (memberList(g, d).size() >= 10) return FULL;
        people.get(w).spells.add(new int[] {g, d, -1});
        return memberList(g, d).size();
    }

    int leaves(int w, int d) {
        if (!who(w) || !day(d)) return BAD;
        for (int[] s : people.get(w).spells) {
            if (s[2] == -1 && s[1] < d) {
                s[2] = d;
                return s[0];
            }
        }
        return NOT;
    }

    int groupOf(int w, int d) {
        if (!who(w) || !day(d)) return BAD;
        int[] s = spell(w, d);
        return s == null ? NONE : s[0];
    }

    int members(int g, int d) {
        if (g < 0 || g >= groups.size() || !day(d)) return BAD;
        return memberList(g, d).size();
    }

    int head(int g, int d) {
        if (g < 0 || g >= groups.size() || !day(d)) return BAD;
        return memberList(g, d).stream().sorted((a, b) -> spell(a, d)[1] != spell(b, d)[1]
            ? spell(a, d)[1] - spell(b, d)[1] : a - b).findFirst().orElse(NONE);
    }

    List<Integer> wanting(int d, int what) {
        List<Integer> list = new ArrayList<>();
        for (int i = 0; i < people.size(); i++) {
            boolean member = spell(i, d) != null;
            if (what == 0 ? isBound(i, d) && !member : member && !isBound(i, d)) list.add(i);
        }
        return list;
    }

    int wants(int d, int what) {
        if (!day(d) || what < 0 || what > 1) return BAD;
        return wanting(d, what).size();
    }

    int wantsAt(int d, int what, int i) {
        if (!day(d) || what < 0 || what > 1) return BAD;
        List<Integer> list = wanting(d, what);
        return i < 0 || i >= list.size() ? BAD : list.get(i);
    }

    int stay(int w, int house, int from, int to) {
        if (!who(w) || house < 0 || house >= houses.size() || !day(from) || !day(to) || to < from) return BAD;
        if (people.get(w).kind != 3) return CAST;
        for (int[] s : stays) if (s[0] == w && !(s[3] < from)) return NOT;
        if (stays.size() == 20) return FULL;
        stays.add(new int[] {w, house, from, to});
        return stays.size() - 1;
    }

    int chargedFor(int w, int d) {
        int[] nights = laws.get('s');
        if (nights == null || !isThere(w, d)) return NONE;
        for (int[] s : stays) {
            if (s[0] != w || d < s[2] || d > s[3]) continue;
            int counted = 0;
            for (int at = s[2]; at <= d; at++) {
                boolean inFair = false;
                for (int[] f : fairs) inFair |= f[0] <= at && at <= f[1];
                counted += inFair ? 0 : 1;
            }
            if (counted < nights[0]) return NONE;
            for (int i = 0; i < people.size(); i++) {
                if (people.get(i).house == s[1] && spell(i, d) != null) return spell(i, d)[0];
            }
        }
        return NONE;
    }

    int charged(int w, int d) {
        if (!who(w) || !day(d)) return BAD;
        return people.get(w).kind != 3 ? CAST : chargedFor(w, d);
    }

    private int bestAsked;
    private int[] bestWay;

    /** All ways, the first by the groups first, so that of like ones the first stays. */
    private void tryWays(List<Integer> who, int[] way, int at, int d) {
        if (at == who.size()) {
            int asked = askedOf(who, way, d);
            if (asked >= 0 && (bestWay == null || asked < bestAsked)) {
                bestAsked = asked;
                bestWay = way.clone();
            }
            return;
        }
        for (int g = 0; g < groups.size(); g++) {
            way[at] = g;
            tryWays(who, way, at + 1, d);
        }
    }

    private List<List<Integer>> membersAhead;

    private int askedOf(List<Integer> who, int[] way, int d) {
        int asked = 0;
        for (int i = 0; i < way.length; i++) {
            One o = people.get(who.get(i));
            asked += Math.abs(houses.get(o.house) - groups.get(way[i]));
            boolean hasKin = false;
            for (int m : membersAhead.get(way[i])) hasKin |= kin(m, who.get(i)) == 1;
            asked += hasKin ? 0 : 5;
            int size = membersAhead.get(way[i]).size();
            boolean allPoor = true;
            for (int m : membersAhead.get(way[i])) allPoor &= people.get(m).poor;
            for (int k = 0; k < way.length; k++) {
                if (way[k] == way[i]) {
                    size++;
                    allPoor &= people.get(who.get(k)).poor;
                }
            }
            if (size > 10 || allPoor) return -1;
        }
        return asked;
    }

    int whole(int d) {
        if (!day(d)) return BAD;
        List<Integer> who = new ArrayList<>();
        for (int i : wanting(d, 0)) if (people.get(i).kind < 2 && free(i, d)) who.add(i);
        if (who.size() > 6) return FULL;
        membersAhead = new ArrayList<>();
        for (int g = 0; g < groups.size(); g++) membersAhead.add(memberList(g, d));
        bestWay = null;
        tryWays(who, new int[who.size()], 0, d);
        if (bestWay == null) return NONE;
        for (One o : people) o.came = NONE;
        for (int i = 0; i < who.size(); i++) {
            people.get(who.get(i)).came = bestWay[i];
            people.get(who.get(i)).spells.add(new int[] {bestWay[i], d, -1});
        }
        return bestAsked;
    }

    int came(int w) {
        return who(w) ? people.get(w).came : BAD;
    }

    int plea(int w, int fine) {
        if (!who(w) || fine < 1 || fine > 9999) return BAD;
        One o = people.get(w);
        if (o.flights.isEmpty()) return NOT;
        int[] flight = o.flights.get(o.flights.size() - 1);
        for (Case c : pleas) if (c.flight == flight) return NOT;
        int d = flight[0] - 1;
        int g = o.kind == 3 ? chargedFor(w, d) : spell(w, d) == null ? NONE : spell(w, d)[0];
        if (g == NONE) return NOT;
        if (pleas.size() == 20) return FULL;
        Case c = new Case();
        c.who = w;
        c.group = g;
        c.fine = fine;
        c.flight = flight;
        c.answer = memberList(g, flight[0]);
        c.answer.remove((Integer) w);
        pleas.add(c);
        return pleas.size() - 1;
    }

    boolean brought(Case c) {
        return c.flight[1] != -1 && c.flight[1] <= c.flight[0] + 30;
    }

    int about(int p, int what) {
        if (p < 0 || p >= pleas.size() || what < 0 || what > 5) return BAD;
        Case c = pleas.get(p);
        int state = c.state == 2 ? 2 : brought(c) ? 1 : 0;
        return new int[] {c.who, c.flight[0], c.group, c.fine, c.answer.size(), state}[what];
    }

    boolean part(Case c, int amount) {
        List<Integer> living = new ArrayList<>();
        int all = 0;
        for (int i : c.answer) {
            if (people.get(i).death == NONE) {
                living.add(i);
                all += people.get(i).poor ? 1 : 3;
            }
        }
        if (living.isEmpty()) {
            lost += amount;
            return false;
        }
        int weights = all;
        int left = amount;
        for (int i : living) {
            int share = amount * (people.get(i).poor ? 1 : 3) / weights;
            c.debt.merge(i, share, Integer::sum);
            left -= share;
        }
        living.sort((a, b) -> {
            int restOfA = amount * (people.get(a).poor ? 1 : 3) % weights;
            int restOfB = amount * (people.get(b).poor ? 1 : 3) % weights;
            return restOfA != restOfB ? restOfB - restOfA : a - b;
        });
        for (int i = 0; i < left; i++) c.debt.merge(living.get(i), 1, Integer::sum);
        return true;
    }

    int judge(int d) {
        if (!day(d)) return BAD;
        int judged = 0;
        for (Case c : pleas) {
            if (c.state != 2 && !brought(c) && d > c.flight[0] + 30) {
                c.state = 2;
                c.some = part(c, c.fine);
                judged++;
            }
        }
        return judged;
    }

    int owes(int w, int p) {
        if (!who(w) || p < -1 || p >= pleas.size()) return BAD;
        int sum = 0;
        for (int i = 0; i < pleas.size(); i++) if (p == -1 || p == i) sum += pleas.get(i).debt.getOrDefault(w, 0);
        return sum;
    }

    int pays(int w, int amount) {
        if (!who(w) || amount < 1 || amount > 99999) return BAD;
        if (people.get(w).death != NONE || owes(w, -1) == 0) return NOT;
        int paid = 0;
        for (Case c : pleas) {
            while (paid < amount && c.debt.getOrDefault(w, 0) > 0) {
                c.debt.merge(w, -1, Integer::sum);
                paid++;
            }
        }
        return paid;
    }

    int byHeads(int g, int d, boolean divided) {
        int sum = 0;
        for (Case c : pleas) if (c.group == g && c.state == 2 && c.some) sum += c.fine;
        return divided ? sum / Math.max(1, memberList(g, d).size()) : sum;
    }

    int borne(int g, int d, int what) {
        if (g < 0 || g >= groups.size() || !day(d) || what < 0 || what > 2) return BAD;
        if (what < 2) return byHeads(g, d, what == 1);
        int sum = 0;
        for (int i = 0; i < groups.size(); i++) sum += byHeads(i, d, true);
        return byHeads(g, d, true) > 2 * (sum / groups.size()) ? 1 : 0;
    }

    int count(int what) {
        if (what < 0 || what > 6) return BAD;
        return new int[] {houses.size(), people.size(), groups.size(), fairs.size(), stays.size(), pleas.size(), lost}[what];
    }

    int sheet(int s, int lane, int n) {
        if (s < 0 || s > 3 || lane < 0 || lane > 2 || n > 20) return BAD;
        if (n < 0) return SIZE;
        sheets[s] = lane == 0 ? new byte[n] : lane == 1 ? new short[n] : new int[n];
        return n;
    }

    int drop(int s) {
        if (s < 0 || s > 3) return BAD;
        if (sheets[s] == null) return NULL;
        int had = java.lang.reflect.Array.getLength(sheets[s]);
        sheets[s] = null;
        return had;
    }

    int refused(int s, int lane) {
        if (s < 0 || s > 3 || lane < 0 || lane > 2) return BAD;
        if (sheets[s] == null) return NULL;
        Class<?> due = lane == 0 ? byte[].class : lane == 1 ? short[].class : int[].class;
        return sheets[s].getClass() == due ? 0 : CAST;
    }

    int item(int s, int lane, int i, int v) {
        int refused = refused(s, lane);
        if (refused != 0) return refused;
        if (i < 0 || i >= java.lang.reflect.Array.getLength(sheets[s])) return INDEX;
        if (lane == 0) ((byte[]) sheets[s])[i] = (byte) v;
        if (lane == 1) ((short[]) sheets[s])[i] = (short) v;
        if (lane == 2) ((int[]) sheets[s])[i] = v;
        return 1;
    }

    int roll(int g, int d, int s, int lane) {
        if (g < 0 || g >= groups.size() || !day(d)) return BAD;
        int refused = refused(s, lane);
        if (refused != 0) return refused;
        List<Integer> names = new ArrayList<>();
        for (int i = 0; i < java.lang.reflect.Array.getLength(sheets[s]); i++) {
            int name = java.lang.reflect.Array.getInt(sheets[s], i);
            if (name < 0 || name > 39) return NOT;
            names.add(name);
        }
        rollNames = names;
        rollMembers = memberList(g, d);
        int sum = 0;
        for (int name = 0; name < 40; name++) sum += leftOut(name);
        return sum;
    }

    int held(int name) {
        int held = 0;
        for (int m : rollMembers) held += people.get(m).name == name ? 1 : 0;
        return held;
    }

    int leftOut(int name) {
        if (name < 0 || name > 39) return BAD;
        if (rollNames == null) return NONE;
        return Math.max(0, held(name) - java.util.Collections.frequency(rollNames, name));
    }

    int sure(int w) {
        if (!who(w)) return BAD;
        if (rollNames == null || !rollMembers.contains(w)) return NONE;
        int name = people.get(w).name;
        int listed = java.util.Collections.frequency(rollNames, name);
        return listed == 0 ? 1 : listed >= held(name) ? 0 : NOT;
    }
}
