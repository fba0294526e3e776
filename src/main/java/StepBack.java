/**
 * The line at the one lift of a mine: the head of it is his who goes farthest back for it.
 * Words in capitals are the document's (its "Terms").
 */
public final class StepBack {
    public static final int UNKNOWN = -1, OUTSIDE = -2, STATE = -3, FULL = -4, NONE = -9;
    public static final long LOST = Long.MIN_VALUE;

    private static final int NO_FAULT = 0, NULL = 1, CAST = 2, INDEX = 3, SIZE = 4;
    private static final int PLAIN = 0, PROUD = 1, LAME = 2;
    private static final int BYTES = 0, SHORTS = 1, INTS = 2;

    private static final int SHEETS = 4, MOST_CELLS = 60;
    private static final int LEAST_PEOPLE = 2, MOST_PEOPLE = 6, MOST_READINGS = 8;
    private static final int TOP_DIGIT = 9, MOST_STEPS = 18, MOST_PAID = 99, MOST_TOLD = 20;
    private static final int BALANCE_RAISED = 10000, PLACE_RAISED = 100, FAULT_RAISED = 10;

    /** Codes of a TEXT ahead of the PEOPLE, and of each of them. */
    private static final int OPENING = 2, CODES_EACH = 4;

    private final Row[] sheets = new Row[SHEETS];
    private final Plain[] people = new Plain[MOST_PEOPLE];
    private final int[] mays = new int[MOST_PEOPLE];
    private final Lift lift = new Lift();
    private final Debts debts = new Debts();
    private final Readings readings = new Readings();
    private final Trace traceLeft = new Trace();
    private int count;
    private int ground;
    private int there;
    private int mornings;
    private int latestFault;

    public StepBack() {
        for (int k = 0; k < SHEETS; k++) {
            sheets[k] = new Row();
        }
    }

    // ---- 1 the line

    public int line(int sheet, int lane, int i, int n) {
        latestFault = NO_FAULT;
        Row row = sheetAt(sheet);
        if (row == null) {
            return UNKNOWN;
        }
        if (!isLane(lane)) {
            return OUTSIDE;
        }
        int fault = faultOfTaking(row, lane, i, n);
        if (fault != NO_FAULT) {
            return faulted(fault);
        }
        int place = firstFault(row, i, n);
        if (place != NONE) {
            return -PLACE_RAISED - place;
        }
        takeText(row, i, n);
        return count;
    }

    public int ofPerson(int p, int what) {
        Plain who = personAt(p);
        if (who == null) {
            return UNKNOWN;
        }
        switch (what) {
            case 0: return who.kind();
            case 1: return who.haste;
            case 2: return who.room;
            case 3: return wouldGo(who.kind(), who.haste);
            case 4: return mayGo(who.kind(), who.haste, who.room);
            case 5: return has(there, p) ? 1 : 0;
            case 6: return debts.owedBy(p);
            case 7: return debts.owedTo(p);
            default: return OUTSIDE;
        }
    }

    public int hurry(int p, int v) {
        Plain who = personAt(p);
        if (who == null) {
            return UNKNOWN;
        }
        if (!isWithin(v, 0, TOP_DIGIT)) {
            return OUTSIDE;
        }
        int was = who.haste;
        who.haste = v;
        return was;
    }

    public int wall(int p, int v) {
        Plain who = personAt(p);
        if (who == null) {
            return UNKNOWN;
        }
        if (!isWithin(v, 0, TOP_DIGIT)) {
            return OUTSIDE;
        }
        int was = who.room;
        who.room = v;
        return was;
    }

    public int lease(int v) {
        if (!isWithin(v, 0, TOP_DIGIT)) {
            return OUTSIDE;
        }
        if (count == 0) {
            return STATE;
        }
        int was = ground;
        ground = v;
        return was;
    }

    // ---- 2 calls

    public int go() {
        if (there == 0) {
            return STATE;
        }
        int down = lift.letDown(maysNow(), there);
        there &= ~bit(down);
        debts.add(down, lift.second, lift.far);
        return down;
    }

    public int morning() {
        if (count == 0) {
            return STATE;
        }
        int away = count - Integer.bitCount(there);
        there = everybody();
        mornings++;
        return away;
    }

    public int owes(int p, int other) {
        if (!areTwo(p, other)) {
            return UNKNOWN;
        }
        return debts.between(p, other);
    }

    public int pays(int p, int other, int n) {
        if (!areTwo(p, other)) {
            return UNKNOWN;
        }
        if (!isWithin(n, 1, MOST_PAID)) {
            return OUTSIDE;
        }
        if (debts.between(p, other) < n) {
            return STATE;
        }
        debts.add(p, other, -n);
        return debts.between(p, other);
    }

    public int calls(int sheet, int lane, int i, int n, int what) {
        latestFault = NO_FAULT;
        Row row = sheetAt(sheet);
        if (row == null) {
            return UNKNOWN;
        }
        if (!isLane(lane) || !isWithin(n, 0, MOST_TOLD) || !isWithin(what, 0, 3)) {
            return OUTSIDE;
        }
        int fault = faultOfTaking(row, lane, i, 2 * n);
        if (fault != NO_FAULT) {
            return faulted(fault);
        }
        if (count == 0) {
            return STATE;
        }
        if (!allNameSomebody(row, i, n)) {
            return UNKNOWN;
        }
        return callsTold(row, i, n, what);
    }

    // ---- 3 orders, clearings

    public int order(int k, int what) {
        if (!isWithin(k, 0, MOST_PEOPLE - 1) || !isWithin(what, 0, 1)) {
            return OUTSIDE;
        }
        if (count == 0) {
            return STATE;
        }
        int many = lift.goThroughAll(maysNow(), there);
        if (k >= many) {
            return NONE;
        }
        return what == 0 ? lift.whoWent[k] : lift.stepsGone[k];
    }

    public int loss(int what) {
        if (!isWithin(what, 0, 1)) {
            return OUTSIDE;
        }
        if (count == 0) {
            return STATE;
        }
        return what == 0 ? lossOfOrder() : leastLoss();
    }

    public int let(int p, int k) {
        Plain who = personAt(p);
        if (who == null) {
            return UNKNOWN;
        }
        if (!isWithin(k, 0, MOST_PEOPLE - 1)) {
            return OUTSIDE;
        }
        if (!has(there, p)) {
            return STATE;
        }
        int[] trial = maysNow();
        for (int room = 0; room <= TOP_DIGIT; room++) {
            trial[p] = mayGo(who.kind(), who.haste, room);
            if (lift.placeOf(p, trial, there) <= k) {
                return room;
            }
        }
        return NONE;
    }

    public int balance(int p) {
        if (personAt(p) == null) {
            return UNKNOWN;
        }
        return debts.balanceOf(p) + BALANCE_RAISED;
    }

    public int cleared(int what) {
        if (!isWithin(what, 0, 1)) {
            return OUTSIDE;
        }
        if (count == 0) {
            return STATE;
        }
        return what == 0 ? debts.leastSteps() : debts.leastPayments();
    }

    public int were(int p, int v, int what) {
        if (personAt(p) == null) {
            return UNKNOWN;
        }
        if (!isWithin(v, 0, MOST_STEPS) || !isWithin(what, 0, 2)) {
            return OUTSIDE;
        }
        int[] now = maysNow();
        int many = 0;
        int least = NONE;
        int inAll = everybody();
        for (int set = 1; set <= everybody(); set++) {
            if (lift.letDown(now, set) == p && lift.far == v) {
                many++;
                least = least == NONE ? set : least;
                inAll &= set;
            }
        }
        if (what == 0) {
            return many;
        }
        if (many == 0) {
            return NONE;
        }
        return what == 1 ? least : inAll;
    }

    // ---- 4 who went on

    public int reading(int p, int far, int on) {
        if (personAt(p) == null) {
            return UNKNOWN;
        }
        if (!isWithin(far, 0, MOST_STEPS) || !isWithin(on, 0, 1)) {
            return OUTSIDE;
        }
        if (readings.count >= MOST_READINGS) {
            return FULL;
        }
        return readings.add(p, far, on == 1);
    }

    public int back(int k) {
        if (!isWithin(k, 0, readings.count)) {
            return OUTSIDE;
        }
        readings.count -= k;
        return readings.count;
    }

    public int hastes(int p) {
        Plain who = personAt(p);
        if (who == null) {
            return UNKNOWN;
        }
        int[] trial = maysNow();
        int set = 0;
        for (int haste = 0; haste <= TOP_DIGIT; haste++) {
            trial[p] = mayGo(who.kind(), haste, who.room);
            set |= readings.areSo(trial) ? bit(haste) : 0;
        }
        return set;
    }

    public int rooms(int p) {
        Plain who = personAt(p);
        if (who == null) {
            return UNKNOWN;
        }
        int[] trial = maysNow();
        int set = 0;
        for (int room = 0; room <= TOP_DIGIT; room++) {
            trial[p] = mayGo(who.kind(), who.haste, room);
            set |= readings.areSo(trial) ? bit(room) : 0;
        }
        return set;
    }

    public int kinds(int p) {
        Plain who = personAt(p);
        if (who == null) {
            return UNKNOWN;
        }
        int[] trial = maysNow();
        int set = 0;
        for (int kind = PLAIN; kind <= LAME; kind++) {
            trial[p] = mayGo(kind, who.haste, who.room);
            set |= readings.areSo(trial) ? bit(kind) : 0;
        }
        return set;
    }

    public long odds(int p, int which) {
        if (personAt(p) == null || !isWithin(which, 0, 1)) {
            return LOST;
        }
        int[] now = maysNow();
        int upper = 0;
        for (int set = 1; set <= everybody(); set++) {
            upper += lift.letDown(now, set) == p ? 1 : 0;
        }
        int lower = bit(count);
        // The lower number is a power of 2, so halving is all that least terms need.
        for (int k = 0; k < count && upper % 2 == 0; k++) {
            upper /= 2;
            lower /= 2;
        }
        return which == 0 ? upper : lower;
    }

    // ---- 5 sheets, parts

    public int sheet(int k, int lane, int n) {
        latestFault = NO_FAULT;
        Row row = sheetAt(k);
        if (row == null) {
            return UNKNOWN;
        }
        if (!isLane(lane) || n > MOST_CELLS) {
            return OUTSIDE;
        }
        if (n < 0) {
            return faulted(SIZE);
        }
        row.renew(lane, n);
        return 1;
    }

    public int lose(int k) {
        Row row = sheetAt(k);
        if (row == null) {
            return UNKNOWN;
        }
        int had = row.isThere ? 1 : 0;
        row.isThere = false;
        return had;
    }

    public int put(int k, int i, int v) {
        latestFault = NO_FAULT;
        Row row = sheetAt(k);
        if (row == null) {
            return UNKNOWN;
        }
        int fault = faultOfTaking(row, row.lane, i, 1);
        if (fault != NO_FAULT) {
            return faulted(fault);
        }
        row.write(i, v);
        return 1;
    }

    public long cell(int k, int i, int lane) {
        latestFault = NO_FAULT;
        Row row = sheetAt(k);
        if (row == null || !isLane(lane)) {
            return LOST;
        }
        latestFault = faultOfTaking(row, lane, i, 1);
        return latestFault == NO_FAULT ? row.read(i) : LOST;
    }

    public int copy(int k, int i, int other, int j, int n) {
        latestFault = NO_FAULT;
        Row from = sheetAt(k);
        Row to = sheetAt(other);
        if (from == null || to == null) {
            return UNKNOWN;
        }
        if (!from.isThere || !to.isThere) {
            return faulted(NULL);
        }
        if (from.lane != to.lane) {
            return faulted(CAST);
        }
        if (!from.hasCells(i, n) || !to.hasCells(j, n)) {
            return faulted(INDEX);
        }
        System.arraycopy(from.cells, i, to.cells, j, n);
        return n;
    }

    public int tell(int p) {
        Plain who = personAt(p);
        return who == null ? UNKNOWN : who.telling(traceLeft);
    }

    public int hear(int p) {
        Plain who = personAt(p);
        return who == null ? UNKNOWN : who.heardAs(traceLeft);
    }

    public int as(int p, int kind) {
        latestFault = NO_FAULT;
        Plain who = personAt(p);
        if (who == null) {
            return UNKNOWN;
        }
        if (!isWithin(kind, PLAIN, LAME)) {
            return OUTSIDE;
        }
        return isOneOf(who, kind) ? 1 : faulted(CAST);
    }

    public int trace() {
        return traceLeft.value;
    }

    public int fault() {
        return latestFault;
    }

    public int many(int what) {
        switch (what) {
            case 0: return count;
            case 1: return ground;
            case 2: return Integer.bitCount(there);
            case 3: return mornings;
            case 4: return readings.count;
            default: return OUTSIDE;
        }
    }

    // ---- what the calls share

    private static boolean isWithin(int v, int least, int most) {
        return v >= least && v <= most;
    }

    private static boolean isLane(int lane) {
        return isWithin(lane, BYTES, INTS);
    }

    private static int bit(int k) {
        return 1 << k;
    }

    private static boolean has(int set, int k) {
        return (set & bit(k)) != 0;
    }

    private int everybody() {
        return bit(count) - 1;
    }

    private Row sheetAt(int k) {
        return k >= 0 && k < SHEETS ? sheets[k] : null;
    }

    private Plain personAt(int p) {
        return p >= 0 && p < count ? people[p] : null;
    }

    private boolean areTwo(int p, int other) {
        return personAt(p) != null && personAt(other) != null && p != other;
    }

    private int faulted(int fault) {
        latestFault = fault;
        return -FAULT_RAISED - fault;
    }

    /** The first fault of n cells from i on, taken as a row of a LANE. */
    private static int faultOfTaking(Row row, int lane, int i, int n) {
        if (!row.isThere) {
            return NULL;
        }
        if (row.lane != lane) {
            return CAST;
        }
        if (n < 0) {
            return SIZE;
        }
        return row.hasCells(i, n) ? NO_FAULT : INDEX;
    }

    private static boolean isOneOf(Plain who, int kind) {
        switch (kind) {
            case PLAIN: return true;
            case PROUD: return who instanceof Proud;
            default: return who instanceof Lame;
        }
    }

    /** WOULD, by numbers alone, so that any of them can be tried in place of what it is. */
    private static int wouldGo(int kind, int haste) {
        switch (kind) {
            case PROUD: return 2 * haste;
            case LAME: return haste / 2;
            default: return haste;
        }
    }

    private int mayGo(int kind, int haste, int room) {
        return Math.min(wouldGo(kind, haste), room + ground);
    }

    /** MAY of everybody, in the one row that all trials use: good till the next call of this. */
    private int[] maysNow() {
        for (int p = 0; p < MOST_PEOPLE; p++) {
            Plain who = personAt(p);
            mays[p] = who == null ? 0 : mayGo(who.kind(), who.haste, who.room);
        }
        return mays;
    }

    private int hasteOf(int p) {
        Plain who = personAt(p);
        return who == null ? 0 : who.haste;
    }

    // ---- a TEXT

    /** The FIRST FAULT of a TEXT; NONE: it is one. */
    private static int firstFault(Row row, int i, int n) {
        for (int place = 0; place < n; place++) {
            if (!isFit(row.read(i + place), place)) {
                return place;
            }
        }
        boolean isWhole = n >= OPENING + LEAST_PEOPLE * CODES_EACH && (n - OPENING) % CODES_EACH == 0;
        return isWhole ? NONE : n;
    }

    private static boolean isFit(int code, int place) {
        if (place >= OPENING + MOST_PEOPLE * CODES_EACH) {
            return false;
        }
        if (place < OPENING) {
            return place == 0 ? code == 'm' : isDigit(code);
        }
        switch ((place - OPENING) % CODES_EACH) {
            case 0: return code == ';';
            case 1: return code == 'p' || code == 'u' || code == 'l';
            default: return isDigit(code);
        }
    }

    private static boolean isDigit(int code) {
        return isWithin(code, '0', '9');
    }

    private void takeText(Row row, int i, int n) {
        ground = row.read(i + 1) - '0';
        count = Math.min((n - OPENING) / CODES_EACH, MOST_PEOPLE);
        for (int p = 0; p < count; p++) {
            int at = i + OPENING + p * CODES_EACH;
            people[p] = newPerson(row.read(at + 1), p, row.read(at + 2) - '0', row.read(at + 3) - '0');
        }
        there = everybody();
        mornings = 0;
        debts.forget();
        readings.count = 0;
    }

    private static Plain newPerson(int letter, int number, int haste, int room) {
        switch (letter) {
            case 'u': return new Proud(number, haste, room);
            case 'l': return new Lame(number, haste, room);
            default: return new Plain(number, haste, room);
        }
    }

    // ---- CALLS that are told

    /** Asked ahead of any answer, as a FIRST WRONG is an answer and a refusal comes ahead of it. */
    private boolean allNameSomebody(Row row, int i, int n) {
        for (int k = 0; k < n; k++) {
            if (personAt(row.read(i + 2 * k)) == null) {
                return false;
            }
        }
        return true;
    }

    private int callsTold(Row row, int i, int n, int what) {
        int[] now = maysNow();
        int far = 0;
        int head = NONE;
        for (int k = 0; k < n; k++) {
            int p = row.read(i + 2 * k);
            int told = row.read(i + 2 * k + 1);
            if (personAt(p) == null || !has(there, p) || now[p] < told || told <= far) {
                return what == 1 ? k : -PLACE_RAISED - k;
            }
            far = told;
            head = p;
        }
        switch (what) {
            case 0: return far;
            case 1: return NONE;
            case 2: return head;
            default: return howManyGoOn(now, far, head);
        }
    }

    private int howManyGoOn(int[] now, int far, int head) {
        int many = 0;
        for (int p = 0; p < count; p++) {
            many += has(there, p) && p != head && now[p] > far ? 1 : 0;
        }
        return many;
    }

    // ---- LOSS

    private int lossOfOrder() {
        int many = lift.goThroughAll(maysNow(), there);
        int sum = 0;
        for (int k = 0; k < many; k++) {
            sum += k * hasteOf(lift.whoWent[k]);
        }
        return sum;
    }

    /** Of any two the one behind loses its HASTE once: at best that is the lesser one, for all pairs at once. */
    private int leastLoss() {
        int sum = 0;
        for (int p = 0; p < count; p++) {
            for (int other = 0; other < p; other++) {
                boolean areBoth = has(there, p) && has(there, other);
                sum += areBoth ? Math.min(hasteOf(p), hasteOf(other)) : 0;
            }
        }
        return sum;
    }

    /** PEOPLE by their kinds. */
    private static class Plain {
        final int number;
        int haste;
        int room;

        Plain(int number, int haste, int room) {
            this.number = number;
            this.haste = haste;
            this.room = room;
        }

        int kind() {
            return PLAIN;
        }

        int telling(Trace trace) {
            return plainTelling(trace);
        }

        /** A body of its own, as a LAME one goes to it past PROUD's. */
        final int plainTelling(Trace trace) {
            trace.leave(1);
            return haste;
        }

        int heardAs(Trace trace) {
            trace.leave(4);
            return number;
        }
    }

    private static class Proud extends Plain {
        Proud(int number, int haste, int room) {
            super(number, haste, room);
        }

        int kind() {
            return PROUD;
        }

        int telling(Trace trace) {
            trace.leave(2);
            return plainTelling(trace) + 100;
        }
    }

    private static final class Lame extends Proud {
        Lame(int number, int haste, int room) {
            super(number, haste, room);
        }

        int kind() {
            return LAME;
        }

        int telling(Trace trace) {
            trace.leave(3);
            int proud = super.telling(trace);
            return proud + plainTelling(trace);
        }

        int heardAs(Trace trace) {
            trace.leave(5);
            return 20;
        }
    }

    private static final class Trace {
        int value;

        void leave(int number) {
            value = 31 * value + number;
        }
    }

    /** What a SHEET has: its cells are made once and used again by every new row. */
    private static final class Row {
        final int[] cells = new int[MOST_CELLS];
        boolean isThere;
        int lane;
        int size;

        void renew(int newLane, int newSize) {
            isThere = true;
            lane = newLane;
            size = Math.max(0, Math.min(newSize, MOST_CELLS));
            for (int i = 0; i < size; i++) {
                cells[i] = 0;
            }
        }

        /** By a difference, as the sum of i and n could wrap. */
        boolean hasCells(int i, int n) {
            return i >= 0 && i <= size && n >= 0 && n <= size - i;
        }

        int read(int i) {
            return hasCells(i, 1) ? cells[i] : 0;
        }

        void write(int i, int v) {
            if (hasCells(i, 1)) {
                cells[i] = cut(v);
            }
        }

        private int cut(int v) {
            switch (lane) {
                case BYTES: return (byte) v;
                case SHORTS: return (short) v;
                default: return v;
            }
        }
    }

    /** A CALL, or CALL by CALL, among a set of PEOPLE whose MAYs are told in a row. */
    private static final class Lift {
        final int[] whoWent = new int[MOST_PEOPLE];
        final int[] stepsGone = new int[MOST_PEOPLE];
        int far;
        int head;
        int second;

        /** Who goes DOWN of a set; far and second tell the rest. NONE: the set has nobody. */
        int letDown(int[] mays, int set) {
            far = 0;
            head = NONE;
            second = NONE;
            boolean isOn = true;
            for (int round = 0; round <= MOST_STEPS && isOn; round++) {
                isOn = goesRound(mays, set);
            }
            return head == NONE ? leastOf(set) : head;
        }

        private boolean goesRound(int[] mays, int set) {
            boolean anybody = false;
            for (int p = 0; p < mays.length; p++) {
                if (p != head && has(set, p) && mays[p] > far) {
                    far++;
                    second = head;
                    head = p;
                    anybody = true;
                }
            }
            return anybody;
        }

        private static int leastOf(int set) {
            for (int p = 0; p < MOST_PEOPLE; p++) {
                if (has(set, p)) {
                    return p;
                }
            }
            return NONE;
        }

        /** Fills whoWent and stepsGone by ORDER: how many go. */
        int goThroughAll(int[] mays, int set) {
            int left = set;
            int many = 0;
            for (int k = 0; k < MOST_PEOPLE && left != 0; k++) {
                int down = letDown(mays, left);
                whoWent[k] = down;
                stepsGone[k] = far;
                left &= ~bit(down);
                many++;
            }
            return many;
        }

        /** As how many-th one of a set goes DOWN. */
        int placeOf(int p, int[] mays, int set) {
            int many = goThroughAll(mays, set);
            for (int k = 0; k < many; k++) {
                if (whoWent[k] == p) {
                    return k;
                }
            }
            return MOST_PEOPLE;
        }
    }

    /** Who owes how many steps to whom; who is not in the line owes nothing and is owed nothing. */
    private static final class Debts {
        final int[][] owed = new int[MOST_PEOPLE][MOST_PEOPLE];
        final int[] balances = new int[MOST_PEOPLE];
        final int[] groups = new int[1 << MOST_PEOPLE];

        private static boolean areNumbers(int p, int other) {
            return isWithin(p, 0, MOST_PEOPLE - 1) && isWithin(other, 0, MOST_PEOPLE - 1);
        }

        void forget() {
            for (int p = 0; p < MOST_PEOPLE; p++) {
                for (int other = 0; other < MOST_PEOPLE; other++) {
                    owed[p][other] = 0;
                }
            }
        }

        /** To nobody nothing is owed. */
        void add(int p, int other, int steps) {
            if (areNumbers(p, other)) {
                owed[p][other] += steps;
            }
        }

        int between(int p, int other) {
            return areNumbers(p, other) ? owed[p][other] : 0;
        }

        int owedBy(int p) {
            int sum = 0;
            for (int other = 0; other < MOST_PEOPLE; other++) {
                sum += between(p, other);
            }
            return sum;
        }

        int owedTo(int p) {
            int sum = 0;
            for (int other = 0; other < MOST_PEOPLE; other++) {
                sum += between(other, p);
            }
            return sum;
        }

        int balanceOf(int p) {
            return owedTo(p) - owedBy(p);
        }

        int leastSteps() {
            int sum = 0;
            for (int p = 0; p < MOST_PEOPLE; p++) {
                sum += Math.max(0, balanceOf(p));
            }
            return sum;
        }

        /**
         * A group whose BALANCES sum to 0 is cleared by one payment fewer than it has people, so the
         * most groups give the fewest payments.
         */
        int leastPayments() {
            for (int p = 0; p < MOST_PEOPLE; p++) {
                balances[p] = balanceOf(p);
            }
            groups[0] = 0;
            for (int set = 1; set < groups.length; set++) {
                groups[set] = mostGroups(set);
            }
            return MOST_PEOPLE - groups[groups.length - 1];
        }

        /** By the sets with one less, which stand already. */
        private int mostGroups(int set) {
            int most = 0;
            int sum = 0;
            for (int p = 0; p < MOST_PEOPLE; p++) {
                if (has(set, p)) {
                    most = Math.max(most, groups[set & ~bit(p)]);
                    sum += balances[p];
                }
            }
            return sum == 0 ? most + 1 : most;
        }
    }

    private static final class Readings {
        final int[] who = new int[MOST_READINGS];
        final int[] far = new int[MOST_READINGS];
        final boolean[] on = new boolean[MOST_READINGS];
        int count;

        int add(int p, int steps, boolean goesOn) {
            if (!isWithin(count, 0, MOST_READINGS - 1)) {
                return FULL;
            }
            who[count] = p;
            far[count] = steps;
            on[count] = goesOn;
            count++;
            return count - 1;
        }

        boolean areSo(int[] mays) {
            for (int k = 0; k < count; k++) {
                if ((mays[who[k]] > far[k]) != on[k]) {
                    return false;
                }
            }
            return true;
        }
    }
}
