/** Villages where groups of ten answer for one; the promises are told in ../shared/DOC.md. */
public final class TenForOne {
    public static final int BAD = -1, NOT = -2, FULL = -3, NONE = -4, NULL = -11, CAST = -12, INDEX = -13, SIZE = -14;

    private static final int NEVER = -1;
    private static final int LAST_DAY = 9999, YEAR = 100, LAST_LANE = 99;
    private static final int HOUSES = 20, PEOPLE = 48, NAMES = 40, GROUPS = 8, FAIRS = 9, STAYS = 20, PLEAS = 20;
    private static final int CLERK = 1, CHIEFS_KIN = 2, STRANGER = 3;
    private static final int FATHERS_LEAD = 1200;
    private static final int TAPE = 40, CLAUSES = 4, LAST_AGE = 99, MOST_NIGHTS = 9, FAULT = -20;
    private static final int TEN = 10, FILLED = 6, NO_KIN_ASKED = 5;
    private static final int MOST_FINE = 9999, MOST_PAID = 99999, DAYS_TO_BRING = 30;
    private static final int SHEETS = 4, SHEET_LANES = 3, ITEMS = 20;
    // No run of 512 calls can make so many flights and spells, so to refuse more breaks no promise.
    private static final int MOST_KEPT = 600;

    private final int[] houseLanes = new int[HOUSES];
    private int houseCount;
    private final Person[] people = new Person[PEOPLE];
    private int personCount;
    private final int[] groupLanes = new int[GROUPS];
    private int groupCount;
    private final Fairs fairs = new Fairs();
    private final Stay[] stays = new Stay[STAYS];
    private int stayCount;
    private final Plea[] pleas = new Plea[PLEAS];
    private int pleaCount;
    private int lost;
    private final Tape tape = new Tape();
    private Laws laws = new Laws();
    private Laws draft = new Laws();
    private final Sheet[] sheets = new Sheet[SHEETS];
    private final Roll roll = new Roll();
    private final Filling filling = new Filling();
    private final int[] rests = new int[PEOPLE];
    private int kept;

    public TenForOne() {
        laws.setAges(0, 12, 60);
        laws.setAges(CHIEFS_KIN, 12, 60);
        laws.nights = 3;
        for (int i = 0; i < SHEETS; i++) {
            sheets[i] = new Sheet();
        }
    }

    // ---- 1 people

    public int house(int lane) {
        if (!isLane(lane)) {
            return BAD;
        }
        if (houseCount >= HOUSES) {
            return FULL;
        }
        houseLanes[houseCount] = lane;
        houseCount++;
        return houseCount - 1;
    }

    public int person(int kind, int born, int name, int house, boolean isPoor, int father) {
        if (kind < 0 || kind > STRANGER || born < -LAST_DAY || born > LAST_DAY) {
            return BAD;
        }
        if (!isName(name) || !isHouse(house) || !mayBeFather(father, born)) {
            return BAD;
        }
        if (personCount >= PEOPLE) {
            return FULL;
        }
        people[personCount] = new Person(kind, born, name, house, isPoor, father);
        personCount++;
        return personCount - 1;
    }

    public int told(int who, int what) {
        Person one = personAt(who);
        if (one == null) {
            return BAD;
        }
        switch (what) {
            case 0: return one.kind;
            case 1: return one.name;
            case 2: return one.house;
            case 3: return one.isPoor ? 1 : 0;
            case 4: return one.father < 0 ? NONE : one.father;
            case 5: return one.isDead() ? one.death : NONE;
            default: return BAD;
        }
    }

    public int age(int who, int day) {
        Person one = personAt(who);
        if (one == null || !isDay(day)) {
            return BAD;
        }
        return day < one.born ? NONE : one.ageOn(day);
    }

    public int dies(int who, int day) {
        Person one = personAt(who);
        if (one == null || !isDay(day)) {
            return BAD;
        }
        if (one.isDead() || day <= one.latestMove() || day < one.born) {
            return NOT;
        }
        int owed = owedOfAll(who);
        one.death = day;
        partDebtsOf(who);
        return owed;
    }

    public int flees(int who, int day) {
        Person one = personAt(who);
        if (one == null || !isDay(day)) {
            return BAD;
        }
        if (one.isDead() || one.isAway() || day <= one.latestMove() || day < one.born) {
            return NOT;
        }
        if (kept >= MOST_KEPT) {
            return FULL;
        }
        kept++;
        one.latestFlight = new Flight(day, one.latestFlight);
        return 1;
    }

    public int back(int who, int day) {
        Person one = personAt(who);
        if (one == null || !isDay(day)) {
            return BAD;
        }
        Flight flight = one.latestFlight;
        if (flight == null || !one.isAway() || one.isDead() || day <= flight.from) {
            return NOT;
        }
        flight.back = day;
        return day - flight.from;
    }

    public int there(int who, int day) {
        Person one = personAt(who);
        if (one == null || !isDay(day)) {
            return BAD;
        }
        return one.isThereOn(day) ? 1 : 0;
    }

    public int kin(int a, int b) {
        if (personAt(a) == null || personAt(b) == null || a == b) {
            return BAD;
        }
        return areKin(a, b) ? 1 : 0;
    }

    public int type(long w, int n) {
        if (n < 1 || n > 8) {
            return BAD;
        }
        for (int i = 0; i < n; i++) {
            int sign = signAt(w, i);
            if (sign < 32 || sign > 126) {
                return BAD;
            }
        }
        if (tape.length + n > TAPE) {
            return FULL;
        }
        for (int i = n - 1; i >= 0; i--) {
            tape.put(signAt(w, i));
        }
        return tape.length;
    }

    public int laws() {
        draft.clear();
        int clauses = tape.readInto(draft);
        tape.length = 0;
        if (clauses > 0) {
            Laws old = laws;
            laws = draft;
            draft = old;
        }
        return clauses;
    }

    public int must(int who, int day) {
        Person one = personAt(who);
        if (one == null || !isDay(day)) {
            return BAD;
        }
        if (one.kind == STRANGER) {
            return CAST;
        }
        return mustBeSworn(one, day) ? 1 : 0;
    }

    public int fair(int from, int to) {
        if (!isDay(from) || !isDay(to) || to < from) {
            return BAD;
        }
        if (fairs.size >= FAIRS) {
            return FULL;
        }
        fairs.put(from, to);
        return fairs.size - 1;
    }

    // ---- 2 groups, lodgers

    public int group(int lane) {
        if (!isLane(lane)) {
            return BAD;
        }
        if (groupCount >= GROUPS) {
            return FULL;
        }
        groupLanes[groupCount] = lane;
        groupCount++;
        return groupCount - 1;
    }

    public int joins(int who, int group, int day) {
        Person one = personAt(who);
        if (one == null || !isGroup(group) || !isDay(day)) {
            return BAD;
        }
        if (one.kind == STRANGER) {
            return CAST;
        }
        if (!one.isThereOn(day) || !one.mayJoin(day)) {
            return NOT;
        }
        int before = membersOf(group, day);
        if (before >= TEN || kept >= MOST_KEPT) {
            return FULL;
        }
        beginSpell(one, group, day);
        return before + 1;
    }

    public int leaves(int who, int day) {
        Person one = personAt(who);
        if (one == null || !isDay(day)) {
            return BAD;
        }
        Spell spell = one.latestSpell;
        if (spell == null || spell.end != NEVER || spell.from >= day) {
            return NOT;
        }
        spell.end = day;
        return spell.group;
    }

    public int groupOf(int who, int day) {
        Person one = personAt(who);
        if (one == null || !isDay(day)) {
            return BAD;
        }
        return one.groupOn(day);
    }

    public int members(int group, int day) {
        return isGroup(group) && isDay(day) ? membersOf(group, day) : BAD;
    }

    public int head(int group, int day) {
        if (!isGroup(group) || !isDay(day)) {
            return BAD;
        }
        int head = NONE;
        int first = LAST_DAY + 1;
        for (int i = 0; i < personCount; i++) {
            Spell spell = people[i].spellOn(day);
            if (spell != null && spell.group == group && spell.from < first) {
                head = i;
                first = spell.from;
            }
        }
        return head;
    }

    public int wants(int day, int what) {
        if (!isDay(day) || what < 0 || what > 1) {
            return BAD;
        }
        int found = 0;
        for (int i = 0; i < personCount; i++) {
            if (isWanting(people[i], day, what)) {
                found++;
            }
        }
        return found;
    }

    public int wantsAt(int day, int what, int i) {
        if (!isDay(day) || what < 0 || what > 1 || i < 0) {
            return BAD;
        }
        int ahead = 0;
        for (int who = 0; who < personCount; who++) {
            if (isWanting(people[who], day, what)) {
                if (ahead == i) {
                    return who;
                }
                ahead++;
            }
        }
        return BAD;
    }

    public int stay(int who, int house, int from, int to) {
        Person one = personAt(who);
        if (one == null || !isHouse(house) || !isDay(from) || !isDay(to) || to < from) {
            return BAD;
        }
        if (one.kind != STRANGER) {
            return CAST;
        }
        if (lodgesOnOrBehind(who, from)) {
            return NOT;
        }
        if (stayCount >= STAYS) {
            return FULL;
        }
        stays[stayCount] = new Stay(who, house, from, to);
        stayCount++;
        return stayCount - 1;
    }

    public int charged(int who, int day) {
        Person one = personAt(who);
        if (one == null || !isDay(day)) {
            return BAD;
        }
        return one.kind != STRANGER ? CAST : groupCharged(who, one, day);
    }

    public int whole(int day) {
        if (!isDay(day)) {
            return BAD;
        }
        if (!gatherUnsworn(day) || kept + filling.size > MOST_KEPT) {
            return FULL;
        }
        filling.begin();
        for (int group = 0; group < groupCount; group++) {
            offerGroup(group, day);
        }
        if (!filling.isPossible()) {
            return NONE;
        }
        settle(day);
        return filling.leastAsked();
    }

    public int came(int who) {
        Person one = personAt(who);
        return one == null ? BAD : one.cameInto;
    }

    // ---- 3 pleas

    public int plea(int who, int fine) {
        Person one = personAt(who);
        if (one == null || fine < 1 || fine > MOST_FINE) {
            return BAD;
        }
        Flight flight = one.latestFlight;
        if (flight == null || hasPlea(who, flight.from)) {
            return NOT;
        }
        int dayAhead = flight.from - 1;
        int group = one.kind == STRANGER ? groupCharged(who, one, dayAhead) : one.groupOn(dayAhead);
        if (group == NONE) {
            return NOT;
        }
        if (pleaCount >= PLEAS) {
            return FULL;
        }
        Plea plea = new Plea(who, flight, group, fine);
        callToAnswer(plea);
        pleas[pleaCount] = plea;
        pleaCount++;
        return pleaCount - 1;
    }

    public int about(int plea, int what) {
        if (plea < 0 || plea >= pleaCount) {
            return BAD;
        }
        Plea asked = pleas[plea];
        switch (what) {
            case 0: return asked.who;
            case 1: return asked.flight.from;
            case 2: return asked.group;
            case 3: return asked.fine;
            case 4: return asked.answererCount;
            case 5: return asked.state();
            default: return BAD;
        }
    }

    public int judge(int day) {
        if (!isDay(day)) {
            return BAD;
        }
        int judged = 0;
        for (int i = 0; i < pleaCount; i++) {
            Plea plea = pleas[i];
            if (plea.isDueOn(day)) {
                plea.isParted = true;
                plea.isBorne = part(plea, plea.fine);
                judged++;
            }
        }
        return judged;
    }

    public int owes(int who, int plea) {
        if (personAt(who) == null || plea < -1 || plea >= pleaCount) {
            return BAD;
        }
        return plea < 0 ? owedOfAll(who) : pleas[plea].owed[who];
    }

    public int pays(int who, int amount) {
        Person one = personAt(who);
        if (one == null || amount < 1 || amount > MOST_PAID) {
            return BAD;
        }
        int payable = Math.min(amount, owedOfAll(who));
        if (one.isDead() || payable == 0) {
            return NOT;
        }
        int left = payable;
        for (int i = 0; i < pleaCount && left > 0; i++) {
            int paid = Math.min(left, pleas[i].owed[who]);
            pleas[i].owed[who] -= paid;
            left -= paid;
        }
        return payable;
    }

    public int borne(int group, int day, int what) {
        if (!isGroup(group) || !isDay(day)) {
            return BAD;
        }
        switch (what) {
            case 0: return borneBy(group);
            case 1: return borneByHeads(group, day);
            case 2: return bearsTooMuch(group, day) ? 1 : 0;
            default: return BAD;
        }
    }

    public int count(int what) {
        switch (what) {
            case 0: return houseCount;
            case 1: return personCount;
            case 2: return groupCount;
            case 3: return fairs.size;
            case 4: return stayCount;
            case 5: return pleaCount;
            case 6: return lost;
            default: return BAD;
        }
    }

    // ---- 4 rolls

    public int sheet(int sheet, int lane, int n) {
        if (!isSheet(sheet) || !isSheetLane(lane) || n > ITEMS) {
            return BAD;
        }
        if (n < 0) {
            return SIZE;
        }
        sheets[sheet].renew(lane, n);
        return n;
    }

    public int drop(int sheet) {
        if (!isSheet(sheet)) {
            return BAD;
        }
        Sheet dropped = sheets[sheet];
        if (dropped.isNothing()) {
            return NULL;
        }
        dropped.lane = NONE;
        return dropped.size;
    }

    public int item(int sheet, int lane, int i, int v) {
        int refusal = refusalOfSheet(sheet, lane);
        if (refusal != 0) {
            return refusal;
        }
        if (i < 0 || i >= sheets[sheet].size) {
            return INDEX;
        }
        sheets[sheet].put(i, v);
        return 1;
    }

    public int roll(int group, int day, int sheet, int lane) {
        if (!isGroup(group) || !isDay(day)) {
            return BAD;
        }
        int refusal = refusalOfSheet(sheet, lane);
        if (refusal != 0) {
            return refusal;
        }
        Sheet read = sheets[sheet];
        for (int i = 0; i < read.size; i++) {
            if (!isName(read.items[i])) {
                return NOT;
            }
        }
        roll.begin(read);
        for (int i = 0; i < personCount; i++) {
            if (people[i].groupOn(day) == group) {
                roll.putMember(i, people[i].name);
            }
        }
        return roll.leftOutOfAll();
    }

    public int leftOut(int name) {
        if (!isName(name)) {
            return BAD;
        }
        return roll.isTold ? roll.leftOutOf(name) : NONE;
    }

    public int sure(int who) {
        Person one = personAt(who);
        if (one == null) {
            return BAD;
        }
        if (!roll.isTold || !roll.isMember[who]) {
            return NONE;
        }
        if (roll.listed[one.name] == 0) {
            return 1;
        }
        return roll.leftOutOf(one.name) == 0 ? 0 : NOT;
    }

    // What numbers may be.

    private static boolean isDay(int day) {
        return day >= 0 && day <= LAST_DAY;
    }

    private static boolean isLane(int lane) {
        return lane >= 0 && lane <= LAST_LANE;
    }

    private static boolean isName(int name) {
        return name >= 0 && name < NAMES;
    }

    private static boolean isSheet(int sheet) {
        return sheet >= 0 && sheet < SHEETS;
    }

    private static boolean isSheetLane(int lane) {
        return lane >= 0 && lane < SHEET_LANES;
    }

    private boolean isHouse(int house) {
        return house >= 0 && house < houseCount;
    }

    private boolean isGroup(int group) {
        return group >= 0 && group < groupCount;
    }

    private Person personAt(int who) {
        return who >= 0 && who < personCount ? people[who] : null;
    }

    private boolean mayBeFather(int father, int born) {
        if (father == -1) {
            return true;
        }
        Person one = personAt(father);
        return one != null && one.kind != STRANGER && one.born + FATHERS_LEAD <= born;
    }

    private static int signAt(long w, int place) {
        return (int) (w >>> (8 * place)) & 255;
    }

    // People and groups.

    private boolean areKin(int a, int b) {
        int fatherOfA = people[a].father;
        int fatherOfB = people[b].father;
        return fatherOfA == b || fatherOfB == a || fatherOfA >= 0 && fatherOfA == fatherOfB;
    }

    private boolean mustBeSworn(Person one, int day) {
        return one.isThereOn(day) && laws.bind(one.kind, one.ageOn(day));
    }

    private boolean isUnsworn(Person one, int day) {
        return mustBeSworn(one, day) && one.groupOn(day) == NONE;
    }

    private boolean isIdle(Person one, int day) {
        return one.groupOn(day) != NONE && !mustBeSworn(one, day);
    }

    private boolean isWanting(Person one, int day, int what) {
        return what == 0 ? isUnsworn(one, day) : isIdle(one, day);
    }

    private int membersOf(int group, int day) {
        int found = 0;
        for (int i = 0; i < personCount; i++) {
            if (people[i].groupOn(day) == group) {
                found++;
            }
        }
        return found;
    }

    private void beginSpell(Person one, int group, int day) {
        kept++;
        one.latestSpell = new Spell(group, day, one.latestSpell);
    }

    // Lodgers.

    private boolean lodgesOnOrBehind(int who, int day) {
        for (int i = 0; i < stayCount; i++) {
            if (stays[i].who == who && stays[i].to >= day) {
                return true;
            }
        }
        return false;
    }

    private Stay stayOn(int who, int day) {
        for (int i = 0; i < stayCount; i++) {
            if (stays[i].who == who && stays[i].from <= day && stays[i].to >= day) {
                return stays[i];
            }
        }
        return null;
    }

    private int groupCharged(int who, Person lodger, int day) {
        Stay stay = stayOn(who, day);
        if (stay == null || !lodger.isThereOn(day) || !hasLodgedLong(stay, day)) {
            return NONE;
        }
        for (int i = 0; i < personCount; i++) {
            int group = people[i].groupOn(day);
            if (people[i].house == stay.house && group != NONE) {
                return group;
            }
        }
        return NONE;
    }

    private boolean hasLodgedLong(Stay stay, int day) {
        if (laws.nights == 0) {
            return false;
        }
        int nights = 0;
        // A fair is leapt over, so that a stay of years costs no more than one of weeks.
        for (int at = stay.from; at <= day && nights < laws.nights; at++) {
            int fairsEnd = fairs.endAround(at);
            if (fairsEnd == NEVER) {
                nights++;
            } else {
                at = Math.max(at, fairsEnd);
            }
        }
        return nights >= laws.nights;
    }

    // Groups made whole.

    private boolean gatherUnsworn(int day) {
        filling.clear();
        for (int i = 0; i < personCount; i++) {
            Person one = people[i];
            if (one.kind <= CLERK && isUnsworn(one, day) && one.mayJoin(day)) {
                if (filling.size >= FILLED) {
                    return false;
                }
                filling.put(i, one.isPoor);
            }
        }
        return true;
    }

    private void offerGroup(int group, int day) {
        for (int i = 0; i < filling.size; i++) {
            filling.asked[i] = askedOf(filling.who[i], group, day);
        }
        filling.offer(group, TEN - membersOf(group, day), hasWealth(group, day));
    }

    private int askedOf(int who, int group, int day) {
        int way = Math.abs(houseLanes[people[who].house] - groupLanes[group]);
        return hasKinIn(who, group, day) ? way : way + NO_KIN_ASKED;
    }

    private boolean hasKinIn(int who, int group, int day) {
        for (int i = 0; i < personCount; i++) {
            if (i != who && areKin(who, i) && people[i].groupOn(day) == group) {
                return true;
            }
        }
        return false;
    }

    private boolean hasWealth(int group, int day) {
        for (int i = 0; i < personCount; i++) {
            if (!people[i].isPoor && people[i].groupOn(day) == group) {
                return true;
            }
        }
        return false;
    }

    private void settle(int day) {
        for (int i = 0; i < personCount; i++) {
            people[i].cameInto = NONE;
        }
        for (int i = 0; i < filling.size; i++) {
            Person one = people[filling.who[i]];
            one.cameInto = filling.groupFor(i);
            beginSpell(one, one.cameInto, day);
        }
    }

    // Pleas.

    private boolean hasPlea(int who, int flightDay) {
        for (int i = 0; i < pleaCount; i++) {
            if (pleas[i].who == who && pleas[i].flight.from == flightDay) {
                return true;
            }
        }
        return false;
    }

    private void callToAnswer(Plea plea) {
        for (int i = 0; i < personCount; i++) {
            if (i != plea.who && people[i].groupOn(plea.flight.from) == plea.group) {
                plea.answers[i] = true;
                plea.answererCount++;
            }
        }
    }

    private boolean mayBear(Plea plea, int who) {
        return plea.answers[who] && !people[who].isDead();
    }

    private int weightOfAll(Plea plea) {
        int all = 0;
        for (int i = 0; i < personCount; i++) {
            if (mayBear(plea, i)) {
                all += people[i].weight();
            }
        }
        return all;
    }

    /** Parts an amount among the living who answer; false if there were none and it was lost. */
    private boolean part(Plea plea, int amount) {
        int all = weightOfAll(plea);
        if (all <= 0) {
            lost += amount;
            return false;
        }
        int left = amount;
        for (int i = 0; i < personCount; i++) {
            rests[i] = NEVER;
            if (mayBear(plea, i)) {
                int weighed = amount * people[i].weight();
                plea.owed[i] += weighed / all;
                left -= weighed / all;
                rests[i] = weighed % all;
            }
        }
        for (; left > 0; left--) {
            giveOneMore(plea);
        }
        return true;
    }

    private void giveOneMore(Plea plea) {
        int greatest = 0;
        for (int i = 1; i < personCount; i++) {
            if (rests[i] > rests[greatest]) {
                greatest = i;
            }
        }
        plea.owed[greatest]++;
        rests[greatest] = NEVER;
    }

    private void partDebtsOf(int dead) {
        for (int i = 0; i < pleaCount; i++) {
            int debt = pleas[i].owed[dead];
            if (debt > 0) {
                pleas[i].owed[dead] = 0;
                part(pleas[i], debt);
            }
        }
    }

    private int owedOfAll(int who) {
        int sum = 0;
        for (int i = 0; i < pleaCount; i++) {
            sum += pleas[i].owed[who];
        }
        return sum;
    }

    private int borneBy(int group) {
        int sum = 0;
        for (int i = 0; i < pleaCount; i++) {
            if (pleas[i].group == group && pleas[i].isBorne) {
                sum += pleas[i].fine;
            }
        }
        return sum;
    }

    private int borneByHeads(int group, int day) {
        int heads = membersOf(group, day);
        return heads > 0 ? borneBy(group) / heads : borneBy(group);
    }

    private boolean bearsTooMuch(int group, int day) {
        int sum = 0;
        for (int i = 0; i < groupCount; i++) {
            sum += borneByHeads(i, day);
        }
        int middle = groupCount > 0 ? sum / groupCount : 0;
        return borneByHeads(group, day) > 2 * middle;
    }

    // Sheets.

    private int refusalOfSheet(int sheet, int lane) {
        if (!isSheet(sheet) || !isSheetLane(lane)) {
            return BAD;
        }
        if (sheets[sheet].isNothing()) {
            return NULL;
        }
        return sheets[sheet].lane == lane ? 0 : CAST;
    }

    /** One who lives in the village, with all flights and spells, the latest first. */
    private static final class Person {
        final int kind;
        final int born;
        final int name;
        final int house;
        final boolean isPoor;
        final int father;
        int death = NEVER;
        int cameInto = NONE;
        Flight latestFlight;
        Spell latestSpell;

        Person(int kind, int born, int name, int house, boolean isPoor, int father) {
            this.kind = kind;
            this.born = born;
            this.name = name;
            this.house = house;
            this.isPoor = isPoor;
            this.father = father;
        }

        int ageOn(int day) {
            return (day - born) / YEAR;
        }

        int weight() {
            return isPoor ? 1 : 3;
        }

        boolean isDead() {
            return death != NEVER;
        }

        boolean isAway() {
            return latestFlight != null && latestFlight.back == NEVER;
        }

        int latestMove() {
            return latestFlight == null ? NEVER : Math.max(latestFlight.from, latestFlight.back);
        }

        boolean isThereOn(int day) {
            return day >= born && (!isDead() || day <= death) && !isAwayOn(day);
        }

        private boolean isAwayOn(int day) {
            for (Flight flight = latestFlight; flight != null; flight = flight.earlier) {
                if (flight.from <= day) {
                    return flight.back == NEVER || flight.back > day;
                }
            }
            return false;
        }

        boolean mayJoin(int day) {
            return latestSpell == null || latestSpell.end != NEVER && latestSpell.end <= day;
        }

        /** The spell by which this one is a member on a day; null: a member of none. */
        Spell spellOn(int day) {
            for (Spell spell = latestSpell; spell != null; spell = spell.earlier) {
                if (spell.from <= day) {
                    boolean goesOn = spell.end == NEVER || day < spell.end;
                    return goesOn && isThereOn(day) ? spell : null;
                }
            }
            return null;
        }

        int groupOn(int day) {
            Spell spell = spellOn(day);
            return spell == null ? NONE : spell.group;
        }
    }

    private static final class Flight {
        final int from;
        final Flight earlier;
        int back = NEVER;

        Flight(int from, Flight earlier) {
            this.from = from;
            this.earlier = earlier;
        }
    }

    private static final class Spell {
        final int group;
        final int from;
        final Spell earlier;
        int end = NEVER;

        Spell(int group, int from, Spell earlier) {
            this.group = group;
            this.from = from;
            this.earlier = earlier;
        }
    }

    private static final class Stay {
        final int who;
        final int house;
        final int from;
        final int to;

        Stay(int who, int house, int from, int to) {
            this.who = who;
            this.house = house;
            this.from = from;
            this.to = to;
        }
    }

    private static final class Fairs {
        final int[] from = new int[FAIRS];
        final int[] to = new int[FAIRS];
        int size;

        void put(int first, int last) {
            if (size < FAIRS) {
                from[size] = first;
                to[size] = last;
                size++;
            }
        }

        int endAround(int day) {
            for (int i = 0; i < size; i++) {
                if (from[i] <= day && day <= to[i]) {
                    return to[i];
                }
            }
            return NEVER;
        }
    }

    private static final class Plea {
        final int who;
        final Flight flight;
        final int group;
        final int fine;
        final boolean[] answers = new boolean[PEOPLE];
        final int[] owed = new int[PEOPLE];
        int answererCount;
        boolean isParted;
        boolean isBorne;

        Plea(int who, Flight flight, int group, int fine) {
            this.who = who;
            this.flight = flight;
            this.group = group;
            this.fine = fine;
        }

        boolean isBrought() {
            return flight.back != NEVER && flight.back - flight.from <= DAYS_TO_BRING;
        }

        boolean isDueOn(int day) {
            return !isParted && !isBrought() && day - flight.from > DAYS_TO_BRING;
        }

        int state() {
            if (isParted) {
                return 2;
            }
            return isBrought() ? 1 : 0;
        }
    }

    /** Who must be sworn, by kind and age, and from which night on lodgers count. */
    private static final class Laws {
        final int[] least = new int[STRANGER];
        final int[] most = new int[STRANGER];
        int nights;

        Laws() {
            clear();
        }

        void clear() {
            nights = 0;
            for (int kind = 0; kind < STRANGER; kind++) {
                least[kind] = 0;
                most[kind] = NEVER;
            }
        }

        void setAges(int kind, int from, int to) {
            if (kind >= 0 && kind < STRANGER) {
                least[kind] = from;
                most[kind] = to;
            }
        }

        boolean bind(int kind, int age) {
            return kind >= 0 && kind < STRANGER && least[kind] <= age && age <= most[kind];
        }
    }

    /** The tape, and the reader that goes over it from place to place. */
    private static final class Tape {
        private static final String LETTERS = "mcks";
        private static final int END = -1;
        // Above all that a number may be, and low enough to take ten times and a digit more.
        private static final int HUGE = 1000;

        final byte[] signs = new byte[TAPE];
        int length;
        private int place;
        private int faultPlace;

        void put(int sign) {
            if (length < TAPE) {
                signs[length] = (byte) sign;
                length++;
            }
        }

        /** How many clauses there are, or the fault. */
        int readInto(Laws laws) {
            place = 0;
            for (int clauses = 1; clauses <= CLAUSES; clauses++) {
                if (!readClause(laws)) {
                    return FAULT - faultPlace;
                }
                int next = nextSign();
                if (next == END) {
                    return clauses;
                }
                if (next != ';' || clauses == CLAUSES) {
                    break;
                }
                place++;
            }
            return FAULT - place;
        }

        private boolean readClause(Laws laws) {
            int letter = nextSign();
            int kind = letter == END ? NEVER : LETTERS.indexOf((char) letter);
            if (kind < 0) {
                return fault(place);
            }
            place++;
            if (kind != STRANGER) {
                return readAges(laws, kind);
            }
            int nights = readNumber(1, MOST_NIGHTS);
            if (nights < 0) {
                return false;
            }
            laws.nights = nights;
            return true;
        }

        private boolean readAges(Laws laws, int kind) {
            int from = readNumber(0, LAST_AGE);
            if (from < 0) {
                return false;
            }
            if (nextSign() != '-') {
                return fault(place);
            }
            place++;
            int to = readNumber(from, LAST_AGE);
            if (to < 0) {
                return false;
            }
            laws.setAges(kind, from, to);
            return true;
        }

        /** A number from one to another; below 0: a fault. */
        private int readNumber(int least, int most) {
            if (!isDigit(nextSign())) {
                fault(place);
                return NEVER;
            }
            int first = place;
            int number = 0;
            for (; place < length && isDigit(signs[place]); place++) {
                number = Math.min(HUGE, number * 10 + signs[place] - '0');
            }
            if (number < least || number > most) {
                fault(first);
                return NEVER;
            }
            return number;
        }

        private int nextSign() {
            for (; place < length; place++) {
                if (signs[place] != ' ') {
                    return signs[place];
                }
            }
            return END;
        }

        private static boolean isDigit(int sign) {
            return sign >= '0' && sign <= '9';
        }

        private boolean fault(int at) {
            faultPlace = at;
            return false;
        }
    }

    /** A row of a lane; the lane NONE: nothing. */
    private static final class Sheet {
        final int[] items = new int[ITEMS];
        int lane = NONE;
        int size;

        boolean isNothing() {
            return lane == NONE;
        }

        void renew(int newLane, int n) {
            lane = newLane;
            size = Math.max(0, Math.min(n, ITEMS));
            for (int i = 0; i < size; i++) {
                items[i] = 0;
            }
        }

        void put(int i, int v) {
            if (i < 0 || i >= size) {
                return;
            }
            switch (lane) {
                case 0: items[i] = (byte) v; break;
                case 1: items[i] = (short) v; break;
                default: items[i] = v; break;
            }
        }
    }

    /** What the latest roll told, beside who the members were as it was told. */
    private static final class Roll {
        final int[] listed = new int[NAMES];
        final int[] borneNames = new int[NAMES];
        final boolean[] isMember = new boolean[PEOPLE];
        boolean isTold;

        void begin(Sheet sheet) {
            isTold = true;
            for (int name = 0; name < NAMES; name++) {
                listed[name] = 0;
                borneNames[name] = 0;
            }
            for (int who = 0; who < PEOPLE; who++) {
                isMember[who] = false;
            }
            for (int i = 0; i < sheet.size; i++) {
                int name = sheet.items[i];
                if (isName(name)) {
                    listed[name]++;
                }
            }
        }

        void putMember(int who, int name) {
            isMember[who] = true;
            borneNames[name]++;
        }

        int leftOutOf(int name) {
            return Math.max(0, borneNames[name] - listed[name]);
        }

        int leftOutOfAll() {
            int sum = 0;
            for (int name = 0; name < NAMES; name++) {
                sum += leftOutOf(name);
            }
            return sum;
        }
    }

    /**
     * Seeks the way to make groups whole that asks least. A way is one number: what it asks, and
     * below that the group of each, three bits for one, the first highest. So the least number is
     * also, of like ones, the first by the groups, and the numbers of parts can be added.
     */
    private static final class Filling {
        private static final int BITS = 3;
        private static final int ASKED_SHIFT = BITS * FILLED;
        private static final int IMPOSSIBLE = 0x7fffffff;
        private static final int SETS = 1 << FILLED;

        final int[] who = new int[FILLED];
        final int[] asked = new int[FILLED];
        int size;
        private int poorSet;
        // Of each set of those who come: the way of all of it into one group, the best way so far.
        private final int[] intoGroup = new int[SETS];
        private final int[] best = new int[SETS];

        void clear() {
            size = 0;
            poorSet = 0;
        }

        void put(int number, boolean isPoor) {
            if (size < FILLED) {
                who[size] = number;
                poorSet |= isPoor ? (1 << size) : 0;
                size++;
            }
        }

        void begin() {
            best[0] = 0;
            for (int set = 1; set < SETS; set++) {
                best[set] = IMPOSSIBLE;
            }
        }

        void offer(int group, int room, boolean hasWealth) {
            addUp(group);
            strikeOut(room, hasWealth);
            // From the greatest set down, as what is left of a set must not have this group yet.
            for (int set = (1 << size) - 1; set > 0; set--) {
                for (int part = set; part > 0; part = (part - 1) & set) {
                    improve(set, part);
                }
            }
        }

        private void addUp(int group) {
            intoGroup[0] = 0;
            for (int i = 0; i < size; i++) {
                int way = (asked[i] << ASKED_SHIFT) + (group << shiftOf(i));
                for (int set = 0; set < (1 << i); set++) {
                    intoGroup[set | (1 << i)] = intoGroup[set] + way;
                }
            }
        }

        private void strikeOut(int room, boolean hasWealth) {
            for (int set = 1; set < (1 << size); set++) {
                boolean isPoorAlone = !hasWealth && (set & ~poorSet) == 0;
                if (Integer.bitCount(set) > room || isPoorAlone) {
                    intoGroup[set] = IMPOSSIBLE;
                }
            }
        }

        private void improve(int set, int part) {
            int rest = best[set ^ part];
            if (rest != IMPOSSIBLE && intoGroup[part] != IMPOSSIBLE) {
                best[set] = Math.min(best[set], rest + intoGroup[part]);
            }
        }

        private int leastWay() {
            return best[(1 << size) - 1];
        }

        boolean isPossible() {
            return leastWay() != IMPOSSIBLE;
        }

        int leastAsked() {
            return leastWay() >> ASKED_SHIFT;
        }

        int groupFor(int i) {
            return (leastWay() >> shiftOf(i)) & (GROUPS - 1);
        }

        private static int shiftOf(int i) {
            return BITS * (FILLED - 1 - i);
        }
    }
}
