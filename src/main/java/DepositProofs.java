/**
 * Deposits of the tenants of a flat, and what is kept of them for the losses of
 * things. Every call answers a number; errors are the negative constants.
 */
public final class DepositProofs {
    /** An argument is out of its range, or there is no such tenant or thing. */
    public static final int INVALID_ARGUMENT = -1;
    /** The call is not possible in the present state. */
    public static final int NOT_POSSIBLE = -2;
    /** A fixed limit has been reached. */
    public static final int LIMIT_REACHED = -3;
    /** There is no such value. */
    public static final int NOT_FOUND = -4;

    private static final int MOST_TENANTS = 6;
    private static final int MOST_THINGS = 12;
    private static final int KINDS = 4;
    private static final int MOST_STATES = 4;
    private static final int MOST_CHARACTERS = 80;

    private static final int MOST_DEPOSIT = 9999;
    private static final int MOST_MONTH = 240;
    private static final int MOST_VALUE = 999;
    private static final int MOST_LIFE = 120;
    private static final int MOST_CONDITION = 10;
    private static final int WHOLE = 100;
    private static final int HALF = 50;

    /** The owner of a thing that all tenants share. */
    private static final int SHARED = -1;
    /** A month that has not come: of going, or of the last inventory. */
    private static final int NEVER = -1;

    private static final int NEEDED_WEIGHT = 4;
    private static final int FIRST_SETTING_COUNT = 20;
    private static final int[] MOST_OF_SETTING = {20, 20, 20, 20, 80};

    private static final int BY_KEPT = 0;
    private static final int BY_LOSSES = 1;
    private static final int BY_VALUES = 2;

    private static final int NO_FAULT = 0;
    private static final int NOT_OF_THE_FORM = 1;
    private static final int OUT_OF_RANGE = 2;
    private static final int OTHER_ERROR = 3;

    private static final int SIGN_BIT = 1 << 31;

    private final Flat now = new Flat();
    private final Flat trial = new Flat();
    private final History history = new History();
    private final Commands commands = new Commands();
    private final int[] keys = new int[MOST_THINGS];

    /** Creates a flat without tenants and things. */
    public DepositProofs() {
    }

    // ---- tenants, things

    /** Lets a tenant come; returns the tenant's number. */
    public int tenant(int deposit, int month) {
        history.note(now);
        return settled(now.addTenant(deposit, month));
    }

    /** Lets a tenant go; returns the months for which the tenant lived there. */
    public int go(int tenant, int month) {
        history.note(now);
        return settled(now.leave(tenant, month));
    }

    /** Adds a thing of a tenant, or a shared one (-1); returns its number. */
    public int thing(int value, int life, int tenant, int condition, int month) {
        history.note(now);
        return settled(now.addThing(value, life, tenant, condition, month));
    }

    /** Looks at a thing again; returns its loss. */
    public int look(int thing, int condition, int month) {
        history.note(now);
        return settled(now.lookAgain(thing, condition, month));
    }

    // ---- proofs, disputes

    /** Adds a proof for a thing; returns the weight of its proofs then. */
    public int proof(int thing, int kind) {
        history.note(now);
        return settled(now.addProof(thing, kind));
    }

    /** Lets a tenant dispute a thing; returns what is kept for it then. */
    public int dispute(int thing, int tenant) {
        history.note(now);
        return settled(now.startDispute(thing, tenant));
    }

    /** Ends the dispute of a tenant about a thing; returns what is kept for it then. */
    public int agree(int thing, int tenant) {
        history.note(now);
        return settled(now.endDispute(thing, tenant));
    }

    /** Decides the part of a loss that is kept; returns what is kept for the thing then. */
    public int decide(int thing, int hundredths) {
        history.note(now);
        return settled(now.changeDecision(thing, hundredths));
    }

    /** Sets a setting; returns what it was. */
    public int set(int what, int value) {
        history.note(now);
        return settled(now.changeSetting(what, value));
    }

    /** Keeps the noted state if the change was made, and passes the answer on. */
    private int settled(int answer) {
        if (answer >= 0) {
            history.keep();
        }
        return answer;
    }

    // ---- what there is

    /** Returns something of a tenant. */
    public int tenantOf(int tenant, int what) {
        if (!now.hasTenant(tenant)) {
            return INVALID_ARGUMENT;
        }
        int deposit = now.deposit[tenant];
        switch (what) {
            case 0: return deposit;
            case 1: return now.cameIn[tenant];
            case 2: return now.wentIn[tenant] == NEVER ? NOT_FOUND : now.wentIn[tenant];
            case 3: return now.borneBy(tenant);
            case 4: return Math.min(deposit, now.borneBy(tenant));
            case 5: return Math.max(0, deposit - now.borneBy(tenant));
            case 6: return Math.max(0, now.borneBy(tenant) - deposit);
            case 7: return now.thingsWithShareOf(tenant);
            case 8: return now.thingsDisputedBy(tenant);
            default: return INVALID_ARGUMENT;
        }
    }

    /** Returns something of a thing. */
    public int thingOf(int thing, int what) {
        if (!now.hasThing(thing) || !within(what, 0, 14)) {
            return INVALID_ARGUMENT;
        }
        if (within(what, 5, 9)) {
            return ofLastInventory(thing, what);
        }
        switch (what) {
            case 0: return now.value[thing];
            case 1: return now.life[thing];
            case 2: return now.owner[thing] == SHARED ? NOT_FOUND : now.owner[thing];
            case 3: return now.firstCondition[thing];
            case 4: return now.firstMonth[thing];
            case 10: return now.proofs[thing];
            case 11: return now.weightOf(now.proofs[thing]);
            case 12: return now.disputers[thing];
            case 13: return now.decided[thing];
            default: return now.keptFor(thing, now.proofs[thing]);
        }
    }

    /** What a thing has only since it was looked at again: 5 to 9 of thingOf. */
    private int ofLastInventory(int thing, int what) {
        if (!now.wasLookedAt(thing)) {
            return NOT_FOUND;
        }
        switch (what) {
            case 5: return now.lastCondition[thing];
            case 6: return now.lastMonth[thing];
            case 7: return now.lastMonth[thing] - now.firstMonth[thing];
            case 8: return now.fairCondition[thing];
            default: return now.loss[thing];
        }
    }

    /** Returns what a tenant bears of a thing, or the tenant's months for it. */
    public int shareOf(int thing, int tenant, int what) {
        if (!now.hasThing(thing) || !now.hasTenant(tenant)) {
            return INVALID_ARGUMENT;
        }
        switch (what) {
            case 0: return now.shareOfThing(thing, tenant);
            case 1: return now.months(thing, tenant);
            default: return INVALID_ARGUMENT;
        }
    }

    /** Returns a thing by its place in an order of all things. */
    public int orderAt(int order, int place) {
        if (!within(order, BY_KEPT, BY_VALUES) || place < 0) {
            return INVALID_ARGUMENT;
        }
        fillKeys(order);
        for (int thing = 0; thing < now.things; thing++) {
            if (placeByKeys(thing) == place) {
                return thing;
            }
        }
        return NOT_FOUND;
    }

    /** Gives each thing the number by which greater ones come first. */
    private void fillKeys(int order) {
        for (int thing = 0; thing < now.things; thing++) {
            switch (order) {
                case BY_KEPT: keys[thing] = now.keptFor(thing, now.proofs[thing]); break;
                case BY_LOSSES: keys[thing] = now.loss[thing]; break;
                default: keys[thing] = -now.value[thing]; break;
            }
        }
    }

    private int placeByKeys(int thing) {
        int ahead = 0;
        for (int other = 0; other < now.things; other++) {
            if (keys[other] > keys[thing] || keys[other] == keys[thing] && other < thing) {
                ahead++;
            }
        }
        return ahead;
    }

    /** Returns a number of all that there is. */
    public int count(int what) {
        switch (what) {
            case 0: return now.tenants;
            case 1: return now.tenantsGone();
            case 2: return now.things;
            case 3: return now.thingsLookedAt();
            case 4: return now.allLosses();
            case 5: return now.keptForAll();
            case 6: return now.allDeposits();
            case 7: return now.allDeposits() - now.keptOfDeposits();
            case 8: return now.owedByAll();
            case 9: return now.disputes();
            case 10: return now.disputedUnproved();
            case 11: return history.count;
            case 12: return commands.length;
            default: return settingOrInvalid(what - FIRST_SETTING_COUNT);
        }
    }

    private int settingOrInvalid(int setting) {
        return within(setting, 0, NEEDED_WEIGHT) ? now.settings[setting] : INVALID_ARGUMENT;
    }

    // ---- what would be, shares

    /** Tells how much more would be kept for a thing with one more proof. */
    public int wouldProve(int thing, int kind) {
        if (!now.hasThing(thing) || !within(kind, 0, KINDS - 1)) {
            return INVALID_ARGUMENT;
        }
        return now.moreWithProof(thing, kind);
    }

    /** Finds the proof by which most more would be kept: its thing, kind, or how much. */
    public int bestProof(int what) {
        if (!within(what, 0, 2)) {
            return INVALID_ARGUMENT;
        }
        int most = 0;
        int bestThing = 0;
        int bestKind = 0;
        for (int thing = 0; thing < now.things; thing++) {
            for (int kind = 0; kind < KINDS; kind++) {
                int more = now.moreWithProof(thing, kind);
                if (more > most) {
                    most = more;
                    bestThing = thing;
                    bestKind = kind;
                }
            }
        }
        if (most == 0) {
            return NOT_FOUND;
        }
        return what == 0 ? bestThing : what == 1 ? bestKind : most;
    }

    /** Tells how much less a tenant would bear by disputing all that can be disputed. */
    public int wouldSave(int tenant) {
        if (!now.hasTenant(tenant)) {
            return INVALID_ARGUMENT;
        }
        Flat.copy(now, trial);
        for (int thing = 0; thing < trial.things; thing++) {
            trial.startDispute(thing, tenant);
        }
        return Math.max(0, now.borneBy(tenant) - trial.borneBy(tenant));
    }

    /** Returns the bits of the part that is kept of all deposits. */
    public int keptBits() {
        int deposits = now.allDeposits();
        if (deposits == 0) {
            return NOT_FOUND;
        }
        return bitsOf((float) now.keptOfDeposits() / (float) deposits);
    }

    /** Returns the bits of the mean of last conditions less fair ones. */
    public int careBits() {
        int looked = now.thingsLookedAt();
        if (looked == 0) {
            return NOT_FOUND;
        }
        return bitsOf((float) now.allCare() / (float) looked);
    }

    /** Restores the latest state of the history; returns how many are left. */
    public int undo() {
        return history.takeBack(now);
    }

    // ---- texts

    /** Appends a character to the text; returns the text's length. */
    public int type(int character) {
        return commands.append(character);
    }

    /** Empties the text; returns the length it had. */
    public int clearText() {
        return commands.empty();
    }

    /** Tells the position or the reason of the text's fault. */
    public int fault(int what) {
        if (!within(what, 0, 1)) {
            return INVALID_ARGUMENT;
        }
        commands.tryOn(now, trial);
        if (commands.reason == NO_FAULT) {
            return NOT_FOUND;
        }
        return what == 0 ? commands.start : commands.reason;
    }

    /** Does all commands of the text as one change; returns how many there are. */
    public int play() {
        commands.tryOn(now, trial);
        if (commands.reason != NO_FAULT) {
            return NOT_POSSIBLE;
        }
        history.note(now);
        Flat.copy(trial, now);
        return settled(commands.performed);
    }

    // ---- numbers

    private static boolean within(int number, int least, int most) {
        return number >= least && number <= most;
    }

    /**
     * The bits of a float of the sizes that occur here (0, or some 0.00001 to 10).
     * The language leaves no library for them; doubling and halving are exact.
     */
    private static int bitsOf(float number) {
        if (number == 0f) {
            return 0;
        }
        int sign = number < 0f ? SIGN_BIT : 0;
        float rest = number < 0f ? -number : number;
        int exponent = 127;
        for (int i = 0; i < 127 && rest >= 2f; i++) {
            rest = rest / 2f;
            exponent++;
        }
        for (int i = 0; i < 126 && rest < 1f; i++) {
            rest = rest * 2f;
            exponent--;
        }
        return sign | exponent << 23 | (int) ((rest - 1f) * 8388608f);
    }

    /** One state: all but the text and the history. */
    private static final class Flat {
        int tenants;
        final int[] deposit = new int[MOST_TENANTS];
        final int[] cameIn = new int[MOST_TENANTS];
        final int[] wentIn = new int[MOST_TENANTS];

        int things;
        final int[] value = new int[MOST_THINGS];
        final int[] life = new int[MOST_THINGS];
        final int[] owner = new int[MOST_THINGS];
        final int[] firstCondition = new int[MOST_THINGS];
        final int[] firstMonth = new int[MOST_THINGS];
        final int[] lastCondition = new int[MOST_THINGS];
        final int[] lastMonth = new int[MOST_THINGS];
        final int[] fairCondition = new int[MOST_THINGS];
        final int[] loss = new int[MOST_THINGS];
        final int[] proofs = new int[MOST_THINGS];
        final int[] disputers = new int[MOST_THINGS];
        final int[] decided = new int[MOST_THINGS];

        final int[] settings = {2, 3, 2, 3, 5};

        static void copy(Flat from, Flat to) {
            if (from == null || to == null) {
                return;
            }
            to.tenants = from.tenants;
            copyRow(from.deposit, to.deposit);
            copyRow(from.cameIn, to.cameIn);
            copyRow(from.wentIn, to.wentIn);
            to.things = from.things;
            copyRow(from.value, to.value);
            copyRow(from.life, to.life);
            copyRow(from.owner, to.owner);
            copyRow(from.firstCondition, to.firstCondition);
            copyRow(from.firstMonth, to.firstMonth);
            copyRow(from.lastCondition, to.lastCondition);
            copyRow(from.lastMonth, to.lastMonth);
            copyRow(from.fairCondition, to.fairCondition);
            copyRow(from.loss, to.loss);
            copyRow(from.proofs, to.proofs);
            copyRow(from.disputers, to.disputers);
            copyRow(from.decided, to.decided);
            copyRow(from.settings, to.settings);
        }

        private static void copyRow(int[] from, int[] to) {
            System.arraycopy(from, 0, to, 0, Math.min(from.length, to.length));
        }

        boolean hasTenant(int tenant) {
            return within(tenant, 0, tenants - 1);
        }

        boolean hasThing(int thing) {
            return within(thing, 0, things - 1);
        }

        boolean wasLookedAt(int thing) {
            return lastMonth[thing] != NEVER;
        }

        private boolean isDisputedBy(int thing, int tenant) {
            return (disputers[thing] >> tenant & 1) == 1;
        }

        // ---- changes: each answers as the call of the face does

        int addTenant(int depositOfTenant, int month) {
            if (!within(depositOfTenant, 0, MOST_DEPOSIT) || !within(month, 0, MOST_MONTH)) {
                return INVALID_ARGUMENT;
            }
            if (tenants >= MOST_TENANTS) {
                return LIMIT_REACHED;
            }
            int tenant = tenants;
            deposit[tenant] = depositOfTenant;
            cameIn[tenant] = month;
            wentIn[tenant] = NEVER;
            tenants++;
            return tenant;
        }

        int leave(int tenant, int month) {
            if (!hasTenant(tenant) || !within(month, 0, MOST_MONTH)) {
                return INVALID_ARGUMENT;
            }
            if (wentIn[tenant] != NEVER || cameIn[tenant] > month) {
                return NOT_POSSIBLE;
            }
            wentIn[tenant] = month;
            return month - cameIn[tenant];
        }

        int addThing(int worth, int lifetime, int tenant, int condition, int month) {
            if (!within(worth, 1, MOST_VALUE) || !within(lifetime, 1, MOST_LIFE)
                    || tenant != SHARED && !hasTenant(tenant)
                    || !within(condition, 0, MOST_CONDITION) || !within(month, 0, MOST_MONTH)) {
                return INVALID_ARGUMENT;
            }
            if (things >= MOST_THINGS) {
                return LIMIT_REACHED;
            }
            int thing = things;
            value[thing] = worth;
            life[thing] = lifetime;
            owner[thing] = tenant;
            firstCondition[thing] = condition;
            firstMonth[thing] = month;
            lastCondition[thing] = 0;
            lastMonth[thing] = NEVER;
            fairCondition[thing] = 0;
            loss[thing] = 0;
            proofs[thing] = 0;
            disputers[thing] = 0;
            decided[thing] = HALF;
            things++;
            return thing;
        }

        int lookAgain(int thing, int condition, int month) {
            if (!hasThing(thing) || !within(condition, 0, MOST_CONDITION)
                    || !within(month, 0, MOST_MONTH)) {
                return INVALID_ARGUMENT;
            }
            if (wasLookedAt(thing) || firstMonth[thing] > month) {
                return NOT_POSSIBLE;
            }
            lastCondition[thing] = condition;
            lastMonth[thing] = month;
            fairCondition[thing] = fairAtAge(thing, month - firstMonth[thing]);
            loss[thing] = value[thing] * Math.max(0, fairCondition[thing] - condition)
                    / MOST_CONDITION;
            return loss[thing];
        }

        private int fairAtAge(int thing, int age) {
            int whole = life[thing];
            if (whole <= 0 || age >= whole) {
                return 0;
            }
            return firstCondition[thing] * (whole - age) / whole;
        }

        int addProof(int thing, int kind) {
            if (!hasThing(thing) || !within(kind, 0, KINDS - 1)) {
                return INVALID_ARGUMENT;
            }
            if ((proofs[thing] >> kind & 1) == 1) {
                return NOT_POSSIBLE;
            }
            proofs[thing] |= 1 << kind;
            return weightOf(proofs[thing]);
        }

        int startDispute(int thing, int tenant) {
            if (!hasThing(thing) || !hasTenant(tenant)) {
                return INVALID_ARGUMENT;
            }
            if (isDisputedBy(thing, tenant) || loss[thing] == 0 || !hasShare(thing, tenant)) {
                return NOT_POSSIBLE;
            }
            disputers[thing] |= 1 << tenant;
            return keptFor(thing, proofs[thing]);
        }

        int endDispute(int thing, int tenant) {
            if (!hasThing(thing) || !hasTenant(tenant)) {
                return INVALID_ARGUMENT;
            }
            if (!isDisputedBy(thing, tenant)) {
                return NOT_POSSIBLE;
            }
            disputers[thing] &= ~(1 << tenant);
            return keptFor(thing, proofs[thing]);
        }

        int changeDecision(int thing, int hundredths) {
            if (!hasThing(thing) || !within(hundredths, 0, WHOLE)) {
                return INVALID_ARGUMENT;
            }
            if (disputers[thing] == 0) {
                return NOT_POSSIBLE;
            }
            decided[thing] = hundredths;
            return keptFor(thing, proofs[thing]);
        }

        int changeSetting(int what, int number) {
            if (!within(what, 0, NEEDED_WEIGHT) || !within(number, 0, MOST_OF_SETTING[what])) {
                return INVALID_ARGUMENT;
            }
            int before = settings[what];
            settings[what] = number;
            return before;
        }

        // ---- one thing, one tenant

        int weightOf(int proofSet) {
            int weight = 0;
            for (int kind = 0; kind < KINDS; kind++) {
                if ((proofSet >> kind & 1) == 1) {
                    weight += settings[kind];
                }
            }
            return weight;
        }

        private boolean isProvedBy(int proofSet) {
            return weightOf(proofSet) >= settings[NEEDED_WEIGHT];
        }

        /** What would be kept for a thing if it had just these proofs. */
        int keptFor(int thing, int proofSet) {
            if (loss[thing] == 0 || owner[thing] == SHARED && monthsOfAll(thing) == 0) {
                return 0;
            }
            if (disputers[thing] == 0) {
                return loss[thing];
            }
            return isProvedBy(proofSet) ? loss[thing] * decided[thing] / WHOLE : 0;
        }

        int moreWithProof(int thing, int kind) {
            return keptFor(thing, proofs[thing] | 1 << kind) - keptFor(thing, proofs[thing]);
        }

        int months(int thing, int tenant) {
            int last = lastMonth[thing];
            if (last == NEVER) {
                return 0;
            }
            int went = wentIn[tenant];
            int from = cameIn[tenant] > firstMonth[thing] ? cameIn[tenant] : firstMonth[thing];
            int to = went != NEVER && went < last ? went : last;
            return to > from ? to - from : 0;
        }

        private int monthsOfAll(int thing) {
            int months = 0;
            for (int tenant = 0; tenant < tenants; tenant++) {
                months += months(thing, tenant);
            }
            return months;
        }

        private boolean hasShare(int thing, int tenant) {
            return owner[thing] == SHARED ? months(thing, tenant) > 0 : owner[thing] == tenant;
        }

        int shareOfThing(int thing, int tenant) {
            if (!hasShare(thing, tenant)) {
                return 0;
            }
            int kept = keptFor(thing, proofs[thing]);
            return owner[thing] == SHARED ? partByMonths(thing, tenant, kept) : kept;
        }

        /** The part of a tenant with months: by months, and 1 of the rest for the lowest ones. */
        private int partByMonths(int thing, int tenant, int kept) {
            int all = monthsOfAll(thing);
            if (all == 0) {
                return 0;
            }
            int rest = kept;
            int ahead = 0;
            for (int other = 0; other < tenants; other++) {
                int months = months(thing, other);
                rest -= kept * months / all;
                if (other < tenant && months > 0) {
                    ahead++;
                }
            }
            return kept * months(thing, tenant) / all + (ahead < rest ? 1 : 0);
        }

        int borneBy(int tenant) {
            int sum = 0;
            for (int thing = 0; thing < things; thing++) {
                sum += shareOfThing(thing, tenant);
            }
            return sum;
        }

        int thingsWithShareOf(int tenant) {
            int set = 0;
            for (int thing = 0; thing < things; thing++) {
                if (hasShare(thing, tenant)) {
                    set |= 1 << thing;
                }
            }
            return set;
        }

        int thingsDisputedBy(int tenant) {
            int set = 0;
            for (int thing = 0; thing < things; thing++) {
                if (isDisputedBy(thing, tenant)) {
                    set |= 1 << thing;
                }
            }
            return set;
        }

        // ---- all together

        int tenantsGone() {
            int number = 0;
            for (int tenant = 0; tenant < tenants; tenant++) {
                if (wentIn[tenant] != NEVER) {
                    number++;
                }
            }
            return number;
        }

        int thingsLookedAt() {
            int number = 0;
            for (int thing = 0; thing < things; thing++) {
                if (wasLookedAt(thing)) {
                    number++;
                }
            }
            return number;
        }

        int allLosses() {
            int sum = 0;
            for (int thing = 0; thing < things; thing++) {
                sum += loss[thing];
            }
            return sum;
        }

        int keptForAll() {
            int sum = 0;
            for (int thing = 0; thing < things; thing++) {
                sum += keptFor(thing, proofs[thing]);
            }
            return sum;
        }

        int allDeposits() {
            int sum = 0;
            for (int tenant = 0; tenant < tenants; tenant++) {
                sum += deposit[tenant];
            }
            return sum;
        }

        int keptOfDeposits() {
            int sum = 0;
            for (int tenant = 0; tenant < tenants; tenant++) {
                sum += Math.min(deposit[tenant], borneBy(tenant));
            }
            return sum;
        }

        int owedByAll() {
            int sum = 0;
            for (int tenant = 0; tenant < tenants; tenant++) {
                sum += Math.max(0, borneBy(tenant) - deposit[tenant]);
            }
            return sum;
        }

        int disputes() {
            int number = 0;
            for (int thing = 0; thing < things; thing++) {
                number += Integer.bitCount(disputers[thing]);
            }
            return number;
        }

        int disputedUnproved() {
            int number = 0;
            for (int thing = 0; thing < things; thing++) {
                if (disputers[thing] != 0 && !isProvedBy(proofs[thing])) {
                    number++;
                }
            }
            return number;
        }

        int allCare() {
            int sum = 0;
            for (int thing = 0; thing < things; thing++) {
                if (wasLookedAt(thing)) {
                    sum += lastCondition[thing] - fairCondition[thing];
                }
            }
            return sum;
        }
    }

    /** The states before the latest changes. */
    private static final class History {
        // One row more than states are kept: it takes what a change may yet fail to keep.
        private final Flat[] states = new Flat[MOST_STATES + 1];
        int count;

        History() {
            for (int i = 0; i < states.length; i++) {
                states[i] = new Flat();
            }
        }

        /** Notes the state before a change; it is kept only if keep() follows. */
        void note(Flat flat) {
            Flat.copy(flat, states[count]);
        }

        void keep() {
            if (count < MOST_STATES) {
                count++;
                return;
            }
            Flat oldest = states[0];
            for (int i = 0; i < MOST_STATES; i++) {
                states[i] = states[i + 1];
            }
            states[MOST_STATES] = oldest;
        }

        int takeBack(Flat flat) {
            if (count == 0) {
                return NOT_POSSIBLE;
            }
            count--;
            Flat.copy(states[count], flat);
            return count;
        }
    }

    /** The text, and how its commands are read and performed. */
    private static final class Commands {
        private static final int MOST_NUMBERS = 5;
        private static final int MOST_DIGITS = 4;
        private static final int PLACE_OF_OWNER = 2;
        private static final int NO_NUMBER = -2;

        int length;
        private final int[] characters = new int[MOST_CHARACTERS];
        private final int[] numbers = new int[MOST_NUMBERS];
        private int place;

        /** Where the faulty command starts, if there is a reason. */
        int start;
        int reason;
        int performed;

        int append(int character) {
            if (!within(character, ' ', '~')) {
                return INVALID_ARGUMENT;
            }
            if (length >= MOST_CHARACTERS) {
                return LIMIT_REACHED;
            }
            characters[length] = character;
            length++;
            return length;
        }

        int empty() {
            int before = length;
            length = 0;
            return before;
        }

        /** Leaves in trial what the commands ahead of the first fault, or all, make of a state. */
        void tryOn(Flat state, Flat trial) {
            Flat.copy(state, trial);
            place = 0;
            reason = NO_FAULT;
            for (performed = 0; performed < MOST_CHARACTERS && place < length; performed++) {
                start = place;
                int command = characters[place];
                place++;
                reason = readNumbers(command) ? reasonOf(perform(command, trial)) : NOT_OF_THE_FORM;
                if (reason != NO_FAULT) {
                    return;
                }
            }
        }

        private static int reasonOf(int answer) {
            if (answer >= 0) {
                return NO_FAULT;
            }
            return answer == INVALID_ARGUMENT ? OUT_OF_RANGE : OTHER_ERROR;
        }

        private int perform(int command, Flat flat) {
            switch (command) {
                case 't': return flat.addTenant(numbers[0], numbers[1]);
                case 'g': return flat.leave(numbers[0], numbers[1]);
                case 'i': return flat.addThing(numbers[0], numbers[1], numbers[2], numbers[3],
                        numbers[4]);
                case 'o': return flat.lookAgain(numbers[0], numbers[1], numbers[2]);
                case 'p': return flat.addProof(numbers[0], numbers[1]);
                case 'd': return flat.startDispute(numbers[0], numbers[1]);
                default: return flat.changeDecision(numbers[0], numbers[1]);
            }
        }

        private static int numbersAfter(int command) {
            switch (command) {
                case 't': case 'g': case 'p': case 'd': case 'v': return 2;
                case 'o': return 3;
                case 'i': return MOST_NUMBERS;
                default: return 0;
            }
        }

        /** Reads what follows the letter of a command, to its ";"; tells if it has the form. */
        private boolean readNumbers(int command) {
            int wanted = numbersAfter(command);
            for (int i = 0; i < wanted; i++) {
                boolean shared = command == 'i' && i == PLACE_OF_OWNER && skip('s');
                int number = shared ? SHARED : readNumber();
                if (number == NO_NUMBER || !skip(i + 1 < wanted ? ',' : ';')) {
                    return false;
                }
                numbers[i] = number;
            }
            return wanted > 0;
        }

        private boolean skip(int character) {
            if (place >= length || characters[place] != character) {
                return false;
            }
            place++;
            return true;
        }

        private int readNumber() {
            int number = 0;
            int digits = 0;
            while (digits < MOST_DIGITS && place < length && within(characters[place], '0', '9')) {
                number = number * 10 + characters[place] - '0';
                place++;
                digits++;
            }
            return digits == 0 ? NO_NUMBER : number;
        }
    }
}
