/** A pool of spare units among operators; ../shared/DOC.md says what each call promises. */
public final class SparePool {
    public static final int NONE = -1;

    private static final int HOLDERS = 5;
    private static final int POOL = 4;
    private static final int KINDS = 3;
    private static final int PARTS = 3;
    private static final int ALL_PARTS = 7;
    private static final int MAX_UNITS = 16;
    private static final int MAX_CORES = 6;
    private static final int MAX_TEXT = 120;
    private static final int MAX_SIGN = 255;
    private static final int MAX_REMEMBERED = 14;
    private static final int SLOTS = 2;
    private static final int MAX_TERM = 30;
    private static final int MAX_DAYS = 99;
    private static final int MAX_TURNS = 99;
    private static final int MAX_COMMANDS = 3;

    private static final int SETTINGS = 3;
    private static final int LATE_FEE = 0;
    private static final int EXCHANGE_PRICE = 1;
    private static final int PART_PRICE = 2;
    private static final int[] FIRST_SETTING = {5, 100, 20};
    private static final int[] MAX_SETTING = {99, 999, 999};

    /** Stands where a holder gets money, for those who are no holder. */
    private static final int OUTSIDE = -1;

    // Every action answers 0 or more, so that a negative answer can say why it was refused.
    private static final int NO_SUCH = -1;
    private static final int BAD_ARGUMENT = -2;
    private static final int NOT_NOW = -3;

    private final Text text = new Text();
    private final State now = new State();
    private final State trial = new State();
    private final History history = new History();
    private final State[] slots = new State[SLOTS];
    private final boolean[] saved = new boolean[SLOTS];

    public SparePool() {
        for (int i = 0; i < SLOTS; i++) {
            slots[i] = new State();
        }
    }

    // ---- text

    public int append(int c) throws IllegalArgumentException, IllegalStateException {
        if (c < 0 || c > MAX_SIGN) {
            throw new IllegalArgumentException();
        }
        if (text.length >= MAX_TEXT) {
            throw new IllegalStateException();
        }
        return text.add(c);
    }

    public int clearText() {
        int before = text.length;
        text.length = 0;
        return before;
    }

    public int errorPosition() {
        return text.firstError();
    }

    public int load() throws IllegalStateException {
        if (text.firstError() != NONE) {
            throw new IllegalStateException();
        }
        now.startAnew();
        history.forgetAll();
        for (int i = 0; i < SLOTS; i++) {
            saved[i] = false;
        }
        return doText();
    }

    private int doText() {
        int leftOut = 0;
        int at = 1;
        while (at < text.length) {
            int next = text.readCommand(at);
            if (next <= at) {
                return leftOut;
            }
            if (doTextCommand(text.command) < 0) {
                leftOut++;
            }
            at = next;
        }
        return leftOut;
    }

    private int doTextCommand(int command) {
        int a = text.first;
        int b = text.second;
        int c = text.third;
        switch (command) {
            case 'n': return now.tryCome(a, b, c);
            case 'l': return now.tryLend(a, b, c);
            case 'r': return now.tryBring(a);
            case 'x': return now.tryExchange(a, b);
            case 't': return now.tryTake(a, b, c);
            case 'd': return now.tryDays(a);
            default: return BAD_ARGUMENT;
        }
    }

    // ---- what there is

    public int about(int what) throws IllegalArgumentException {
        switch (what) {
            case 0: return now.today;
            case 1: return now.units.count;
            case 2: return now.units.usableOnes();
            case 3: return now.units.onLoan();
            case 4: return now.units.dueBefore(now.today);
            case 5: return now.cores.all();
            case 6: return now.debts.all();
            case 7: return now.takenSoFar;
            case 8: return now.exchangesSoFar;
            case 9: return now.paidOutside;
            default: throw new IllegalArgumentException();
        }
    }

    public int unit(int u, int what) throws IndexOutOfBoundsException, IllegalArgumentException {
        if (!now.units.has(u)) {
            throw new IndexOutOfBoundsException();
        }
        switch (what) {
            case 0: return now.units.kind[u];
            case 1: return now.units.owner[u];
            case 2: return now.units.place[u];
            case 3: return now.units.parts[u];
            case 4: return now.units.due[u];
            case 5: return now.feesFor(u, 0);
            default: throw new IllegalArgumentException();
        }
    }

    public int holder(int h, int what) throws IndexOutOfBoundsException, IllegalArgumentException {
        if (!isHolder(h)) {
            throw new IndexOutOfBoundsException();
        }
        switch (what) {
            case 0: return now.account[h];
            case 1: return now.units.ownedBy(h);
            case 2: return now.units.placedAt(h);
            case 3: return now.units.borrowedBy(h);
            case 4: return now.cores.count[h];
            case 5: return now.debts.owedBy(h);
            case 6: return now.debts.owedTo(h);
            default: throw new IllegalArgumentException();
        }
    }

    public int owed(int h, int other, int kind, int part) throws IndexOutOfBoundsException {
        if (!isHolder(h) || !isHolder(other) || !isKind(kind) || !isPart(part)) {
            throw new IndexOutOfBoundsException();
        }
        return now.debts.between(h, other, kind, part);
    }

    public int core(int h, int k, int what) throws IndexOutOfBoundsException, IllegalArgumentException {
        if (!isHolder(h)) {
            throw new IndexOutOfBoundsException();
        }
        if (k < 0 || what < 0 || what > 1) {
            throw new IllegalArgumentException();
        }
        return what == 0 ? now.cores.kindOf(h, k) : now.cores.dueOf(h, k);
    }

    public int setting(int what) throws IllegalArgumentException {
        if (!isSetting(what)) {
            throw new IllegalArgumentException();
        }
        return now.setting[what];
    }

    // ---- actions

    public int come(int kind, int owner, int parts)
            throws IndexOutOfBoundsException, IllegalArgumentException, IllegalStateException {
        history.prepare(now);
        return finishAction(now.tryCome(kind, owner, parts));
    }

    public int lend(int u, int h, int days)
            throws IndexOutOfBoundsException, IllegalArgumentException, IllegalStateException {
        history.prepare(now);
        return finishAction(now.tryLend(u, h, days));
    }

    public int bring(int u) throws IndexOutOfBoundsException, IllegalStateException {
        history.prepare(now);
        return finishAction(now.tryBring(u));
    }

    public int exchange(int u, int v) throws IndexOutOfBoundsException, IllegalStateException {
        history.prepare(now);
        return finishAction(now.tryExchange(u, v));
    }

    public int advance(int h, int v, int days)
            throws IndexOutOfBoundsException, IllegalArgumentException, IllegalStateException {
        history.prepare(now);
        return finishAction(now.tryAdvance(h, v, days));
    }

    public int deliver(int u) throws IndexOutOfBoundsException, IllegalStateException {
        history.prepare(now);
        return finishAction(now.tryDeliver(u));
    }

    public int take(int u, int v, int part) throws IndexOutOfBoundsException, IllegalStateException {
        history.prepare(now);
        return finishAction(now.tryTake(u, v, part));
    }

    public int settle(int h, int other, int kind, int part)
            throws IndexOutOfBoundsException, IllegalStateException {
        history.prepare(now);
        return finishAction(now.trySettle(h, other, kind, part));
    }

    public int buy(int u, int part) throws IndexOutOfBoundsException, IllegalStateException {
        history.prepare(now);
        return finishAction(now.tryBuy(u, part));
    }

    public int days(int n) throws IllegalArgumentException {
        history.prepare(now);
        return finishAction(now.tryDays(n));
    }

    public int set(int what, int v) throws IllegalArgumentException {
        history.prepare(now);
        return finishAction(now.trySet(what, v));
    }

    public int undo() throws IllegalStateException {
        if (history.count == 0) {
            throw new IllegalStateException();
        }
        history.takeBack(now);
        return history.count;
    }

    private int finishAction(int answer) {
        switch (answer) {
            case NO_SUCH: throw new IndexOutOfBoundsException();
            case BAD_ARGUMENT: throw new IllegalArgumentException();
            case NOT_NOW: throw new IllegalStateException();
            default: break;
        }
        history.keepPrepared();
        return answer;
    }

    // ---- what would be

    public int complete(int h, int kind) throws IndexOutOfBoundsException {
        if (!isHolder(h) || !isKind(kind)) {
            throw new IndexOutOfBoundsException();
        }
        return now.units.mostCompleted(h, kind);
    }

    public int takings(int h, int kind) throws IndexOutOfBoundsException {
        if (!isHolder(h) || !isKind(kind)) {
            throw new IndexOutOfBoundsException();
        }
        return now.units.fewestTakings(h, kind);
    }

    public int bill(int h, int n) throws IndexOutOfBoundsException, IllegalArgumentException {
        if (!isHolder(h)) {
            throw new IndexOutOfBoundsException();
        }
        if (n < 0 || n > MAX_DAYS) {
            throw new IllegalArgumentException();
        }
        return now.feesToPay(h, n);
    }

    public int firstDue() {
        return now.units.dueFirst();
    }

    public int cheapest(int h, int kind) throws IndexOutOfBoundsException {
        if (!isHolder(h) || !isKind(kind)) {
            throw new IndexOutOfBoundsException();
        }
        return now.cheapestCore(h, kind);
    }

    public int inDebt() {
        int bits = 0;
        for (int h = 0; h < HOLDERS; h++) {
            if (now.accountWhenAllIsSettled(h) < 0) {
                bits |= 1 << h;
            }
        }
        return bits;
    }

    // ---- scripts, simulations

    public int runScript(int n, long script) throws IllegalArgumentException {
        if (n < 1 || n > MAX_COMMANDS || script < 0 || script >= Script.limit(n)) {
            throw new IllegalArgumentException();
        }
        trial.copyFrom(now);
        for (int i = 0; i < n; i++) {
            if (!Script.succeeds(trial, Script.group(script, n - 1 - i))) {
                return i;
            }
        }
        return NONE;
    }

    public int simulate(long seed, int m) throws IllegalArgumentException {
        if (m < 1 || m > MAX_TURNS) {
            throw new IllegalArgumentException();
        }
        trial.copyFrom(now);
        long x = seed;
        for (int i = 0; i < m; i++) {
            x = x * 6364136223846793005L + 1442695040888963407L;
            Simulation.turn(trial, (int) (x >>> 33));
        }
        return 1000 * trial.units.usableOnes() + 100 * trial.cores.all() + trial.debts.all();
    }

    // ---- save slots

    public int save(int slot) throws IndexOutOfBoundsException {
        if (!isSlot(slot)) {
            throw new IndexOutOfBoundsException();
        }
        slots[slot].copyFrom(now);
        saved[slot] = true;
        return now.units.count;
    }

    public int restore(int slot) throws IndexOutOfBoundsException, IllegalStateException {
        if (!isSlot(slot)) {
            throw new IndexOutOfBoundsException();
        }
        if (!saved[slot]) {
            throw new IllegalStateException();
        }
        now.copyFrom(slots[slot]);
        history.forgetAll();
        return now.units.count;
    }

    private static boolean isHolder(int h) {
        return h >= 0 && h < HOLDERS;
    }

    private static boolean isKind(int kind) {
        return kind >= 0 && kind < KINDS;
    }

    private static boolean isPart(int part) {
        return part >= 0 && part < PARTS;
    }

    private static boolean isSetting(int what) {
        return what >= 0 && what < SETTINGS;
    }

    private static boolean isSlot(int slot) {
        return slot >= 0 && slot < SLOTS;
    }

    private static boolean isTerm(int days) {
        return days >= 1 && days <= MAX_TERM;
    }

    /** The units that have come, by their numbers. */
    private static final class Units {
        private final int[] kind = new int[MAX_UNITS];
        private final int[] owner = new int[MAX_UNITS];
        private final int[] place = new int[MAX_UNITS];
        private final int[] parts = new int[MAX_UNITS];
        /** The due day of a unit on loan, NONE of a free one. */
        private final int[] due = new int[MAX_UNITS];
        private int count;

        private void copyFrom(Units other) {
            System.arraycopy(other.kind, 0, kind, 0, MAX_UNITS);
            System.arraycopy(other.owner, 0, owner, 0, MAX_UNITS);
            System.arraycopy(other.place, 0, place, 0, MAX_UNITS);
            System.arraycopy(other.parts, 0, parts, 0, MAX_UNITS);
            System.arraycopy(other.due, 0, due, 0, MAX_UNITS);
            count = other.count;
        }

        private boolean has(int u) {
            return u >= 0 && u < count;
        }

        /** The caller has seen that there is room. */
        private int add(int itsKind, int itsOwner, int itsParts) {
            int u = count;
            if (u >= MAX_UNITS) {
                return NONE;
            }
            kind[u] = itsKind;
            parts[u] = itsParts;
            count++;
            giveTo(u, itsOwner);
            return u;
        }

        private void giveTo(int u, int h) {
            if (has(u)) {
                owner[u] = h;
                place[u] = h;
                due[u] = NONE;
            }
        }

        private boolean isFree(int u) {
            return has(u) && place[u] == owner[u];
        }

        private boolean isUsable(int u) {
            return has(u) && parts[u] == ALL_PARTS;
        }

        private boolean isFreeCore(int u) {
            return isFree(u) && owner[u] != POOL;
        }

        private boolean isGoodSpare(int v) {
            return isFree(v) && isUsable(v) && owner[v] == POOL;
        }

        private boolean isOfKindAt(int u, int itsKind, int h) {
            return has(u) && kind[u] == itsKind && place[u] == h;
        }

        private boolean hasPart(int u, int part) {
            return has(u) && (parts[u] & 1 << part) != 0;
        }

        private int missingParts(int u) {
            return has(u) ? PARTS - Integer.bitCount(parts[u] & ALL_PARTS) : 0;
        }

        private int usableOnes() {
            int n = 0;
            for (int u = 0; u < count; u++) {
                n += isUsable(u) ? 1 : 0;
            }
            return n;
        }

        private int onLoan() {
            int n = 0;
            for (int u = 0; u < count; u++) {
                n += isFree(u) ? 0 : 1;
            }
            return n;
        }

        private int dueBefore(int day) {
            int n = 0;
            for (int u = 0; u < count; u++) {
                n += !isFree(u) && due[u] < day ? 1 : 0;
            }
            return n;
        }

        private int ownedBy(int h) {
            int n = 0;
            for (int u = 0; u < count; u++) {
                n += owner[u] == h ? 1 : 0;
            }
            return n;
        }

        private int placedAt(int h) {
            int n = 0;
            for (int u = 0; u < count; u++) {
                n += place[u] == h ? 1 : 0;
            }
            return n;
        }

        private int borrowedBy(int h) {
            int n = 0;
            for (int u = 0; u < count; u++) {
                n += place[u] == h && owner[u] != h ? 1 : 0;
            }
            return n;
        }

        private int dueFirst() {
            int first = NONE;
            for (int u = 0; u < count; u++) {
                if (!isFree(u) && (first == NONE || due[u] < due[first])) {
                    first = u;
                }
            }
            return first;
        }

        /** The rarest part says how many: all others can be moved to where it is. */
        private int mostCompleted(int h, int itsKind) {
            int most = MAX_UNITS;
            for (int part = 0; part < PARTS; part++) {
                int n = 0;
                for (int u = 0; u < count; u++) {
                    n += isOfKindAt(u, itsKind, h) && hasPart(u, part) ? 1 : 0;
                }
                most = Math.min(most, n);
            }
            return most;
        }

        /** One taking fills one gap, so the units with the fewest gaps are completed. */
        private int fewestTakings(int h, int itsKind) {
            int left = mostCompleted(h, itsKind);
            int takings = 0;
            for (int gaps = 0; gaps <= PARTS; gaps++) {
                int completed = Math.min(left, withGaps(h, itsKind, gaps));
                takings += completed * gaps;
                left -= completed;
            }
            return takings;
        }

        private int withGaps(int h, int itsKind, int gaps) {
            int n = 0;
            for (int u = 0; u < count; u++) {
                n += isOfKindAt(u, itsKind, h) && missingParts(u) == gaps ? 1 : 0;
            }
            return n;
        }
    }

    /** The cores that each holder owes the pool, the oldest first. */
    private static final class Cores {
        private final int[] kind = new int[HOLDERS * MAX_CORES];
        private final int[] due = new int[HOLDERS * MAX_CORES];
        private final int[] count = new int[HOLDERS];

        private void clear() {
            for (int h = 0; h < HOLDERS; h++) {
                count[h] = 0;
            }
        }

        private void copyFrom(Cores other) {
            System.arraycopy(other.kind, 0, kind, 0, HOLDERS * MAX_CORES);
            System.arraycopy(other.due, 0, due, 0, HOLDERS * MAX_CORES);
            System.arraycopy(other.count, 0, count, 0, HOLDERS);
        }

        private boolean owes(int h, int k) {
            return isHolder(h) && k >= 0 && k < count[h] && k < MAX_CORES;
        }

        private boolean hasRoom(int h) {
            return isHolder(h) && count[h] < MAX_CORES;
        }

        private int kindOf(int h, int k) {
            return owes(h, k) ? kind[h * MAX_CORES + k] : NONE;
        }

        private int dueOf(int h, int k) {
            return owes(h, k) ? due[h * MAX_CORES + k] : NONE;
        }

        private int oldest(int h, int itsKind) {
            for (int k = 0; k < MAX_CORES; k++) {
                if (kindOf(h, k) == itsKind) {
                    return k;
                }
            }
            return NONE;
        }

        private void add(int h, int itsKind, int itsDue) {
            if (hasRoom(h)) {
                int at = h * MAX_CORES + count[h];
                kind[at] = itsKind;
                due[at] = itsDue;
                count[h]++;
            }
        }

        private void remove(int h, int k) {
            if (!owes(h, k)) {
                return;
            }
            for (int i = k; i + 1 < count[h]; i++) {
                int at = h * MAX_CORES + i;
                kind[at] = kind[at + 1];
                due[at] = due[at + 1];
            }
            count[h]--;
        }

        private int all() {
            int n = 0;
            for (int h = 0; h < HOLDERS; h++) {
                n += count[h];
            }
            return n;
        }
    }

    /** The parts that holders owe one another; of two, one at most owes such a part. */
    private static final class Debts {
        private static final int SORTS = KINDS * PARTS;
        private static final int SIZE = HOLDERS * HOLDERS * SORTS;

        private final int[] owing = new int[SIZE];

        private void clear() {
            for (int i = 0; i < SIZE; i++) {
                owing[i] = 0;
            }
        }

        private void copyFrom(Debts other) {
            System.arraycopy(other.owing, 0, owing, 0, SIZE);
        }

        /** NONE where there is no such holder, kind or part. */
        private static int indexOf(int h, int other, int kind, int part) {
            if (!isHolder(h) || !isHolder(other) || !isKind(kind) || !isPart(part)) {
                return NONE;
            }
            return (h * HOLDERS + other) * SORTS + kind * PARTS + part;
        }

        private int between(int h, int other, int kind, int part) {
            int at = indexOf(h, other, kind, part);
            return at == NONE ? 0 : owing[at];
        }

        /** A debt the other way round becomes less instead. */
        private void addOne(int h, int other, int kind, int part) {
            int at = indexOf(h, other, kind, part);
            int back = indexOf(other, h, kind, part);
            if (at == NONE || back == NONE || at == back) {
                return;
            }
            if (owing[back] > 0) {
                owing[back]--;
            } else {
                owing[at]++;
            }
        }

        private void removeOne(int h, int other, int kind, int part) {
            int at = indexOf(h, other, kind, part);
            if (at != NONE && owing[at] > 0) {
                owing[at]--;
            }
        }

        private int owedBy(int h) {
            int n = 0;
            for (int other = 0; other < HOLDERS; other++) {
                n += ofAllSorts(h, other);
            }
            return n;
        }

        private int owedTo(int h) {
            int n = 0;
            for (int other = 0; other < HOLDERS; other++) {
                n += ofAllSorts(other, h);
            }
            return n;
        }

        private int all() {
            int n = 0;
            for (int h = 0; h < HOLDERS; h++) {
                n += owedBy(h);
            }
            return n;
        }

        private int ofAllSorts(int h, int other) {
            if (!isHolder(h) || !isHolder(other)) {
                return 0;
            }
            int begin = (h * HOLDERS + other) * SORTS;
            int n = 0;
            for (int i = 0; i < SORTS; i++) {
                n += owing[begin + i];
            }
            return n;
        }
    }

    /** All that undo and the save slots keep. Each try..() is an action, or answers why it is refused. */
    private static final class State {
        private final Units units = new Units();
        private final Cores cores = new Cores();
        private final Debts debts = new Debts();
        private final int[] account = new int[HOLDERS];
        private final int[] setting = new int[SETTINGS];
        private int today;
        private int takenSoFar;
        private int exchangesSoFar;
        private int paidOutside;

        private State() {
            System.arraycopy(FIRST_SETTING, 0, setting, 0, SETTINGS);
        }

        private void startAnew() {
            units.count = 0;
            cores.clear();
            debts.clear();
            for (int h = 0; h < HOLDERS; h++) {
                account[h] = 0;
            }
            System.arraycopy(FIRST_SETTING, 0, setting, 0, SETTINGS);
            today = 0;
            takenSoFar = 0;
            exchangesSoFar = 0;
            paidOutside = 0;
        }

        private void copyFrom(State other) {
            units.copyFrom(other.units);
            cores.copyFrom(other.cores);
            debts.copyFrom(other.debts);
            System.arraycopy(other.account, 0, account, 0, HOLDERS);
            System.arraycopy(other.setting, 0, setting, 0, SETTINGS);
            today = other.today;
            takenSoFar = other.takenSoFar;
            exchangesSoFar = other.exchangesSoFar;
            paidOutside = other.paidOutside;
        }

        private int tryCome(int kind, int owner, int parts) {
            if (!isKind(kind) || !isHolder(owner)) {
                return NO_SUCH;
            }
            if (parts < 0 || parts > ALL_PARTS) {
                return BAD_ARGUMENT;
            }
            if (units.count >= MAX_UNITS) {
                return NOT_NOW;
            }
            return units.add(kind, owner, parts);
        }

        private int tryLend(int u, int h, int days) {
            if (!units.has(u) || !isHolder(h)) {
                return NO_SUCH;
            }
            if (!isTerm(days)) {
                return BAD_ARGUMENT;
            }
            if (!units.isFree(u) || units.owner[u] == h) {
                return NOT_NOW;
            }
            units.place[u] = h;
            units.due[u] = today + days;
            return units.due[u];
        }

        private int tryBring(int u) {
            if (!units.has(u)) {
                return NO_SUCH;
            }
            if (units.isFree(u)) {
                return NOT_NOW;
            }
            int fees = feesFor(u, 0);
            pay(units.place[u], units.owner[u], fees);
            units.giveTo(u, units.owner[u]);
            return fees;
        }

        private int tryExchange(int u, int v) {
            if (!units.has(u) || !units.has(v)) {
                return NO_SUCH;
            }
            if (!units.isFreeCore(u) || !units.isGoodSpare(v) || units.kind[u] != units.kind[v]) {
                return NOT_NOW;
            }
            int operator = units.owner[u];
            int price = priceForCore(u);
            units.giveTo(u, POOL);
            units.giveTo(v, operator);
            pay(operator, POOL, price);
            exchangesSoFar++;
            return price;
        }

        private int tryAdvance(int h, int v, int days) {
            if (!isHolder(h) || !units.has(v)) {
                return NO_SUCH;
            }
            if (!isTerm(days)) {
                return BAD_ARGUMENT;
            }
            if (h == POOL || !cores.hasRoom(h) || !units.isGoodSpare(v)) {
                return NOT_NOW;
            }
            int due = today + days;
            units.giveTo(v, h);
            cores.add(h, units.kind[v], due);
            exchangesSoFar++;
            return due;
        }

        private int tryDeliver(int u) {
            if (!units.has(u)) {
                return NO_SUCH;
            }
            if (!units.isFreeCore(u)) {
                return NOT_NOW;
            }
            int operator = units.owner[u];
            int k = cores.oldest(operator, units.kind[u]);
            if (k == NONE) {
                return NOT_NOW;
            }
            int price = priceForCore(u) + lateFees(cores.dueOf(operator, k), today);
            units.giveTo(u, POOL);
            cores.remove(operator, k);
            pay(operator, POOL, price);
            return price;
        }

        private int tryTake(int u, int v, int part) {
            if (!units.has(u) || !units.has(v) || !isPart(part)) {
                return NO_SUCH;
            }
            if (!units.isOfKindAt(u, units.kind[v], units.place[v])
                    || !units.hasPart(u, part) || units.hasPart(v, part)) {
                return NOT_NOW;
            }
            int kind = units.kind[v];
            int giver = units.owner[u];
            int getter = units.owner[v];
            units.parts[u] &= ~(1 << part);
            units.parts[v] |= 1 << part;
            takenSoFar++;
            debts.addOne(getter, giver, kind, part);
            return debts.between(getter, giver, kind, part);
        }

        private int trySettle(int h, int other, int kind, int part) {
            if (!isHolder(h) || !isHolder(other) || !isKind(kind) || !isPart(part)) {
                return NO_SUCH;
            }
            if (debts.between(h, other, kind, part) == 0) {
                return NOT_NOW;
            }
            debts.removeOne(h, other, kind, part);
            pay(h, other, setting[PART_PRICE]);
            return debts.between(h, other, kind, part);
        }

        private int tryBuy(int u, int part) {
            if (!units.has(u) || !isPart(part)) {
                return NO_SUCH;
            }
            if (units.hasPart(u, part)) {
                return NOT_NOW;
            }
            units.parts[u] |= 1 << part;
            pay(units.owner[u], OUTSIDE, setting[PART_PRICE]);
            return units.parts[u];
        }

        private int tryDays(int n) {
            if (n < 1 || n > MAX_DAYS) {
                return BAD_ARGUMENT;
            }
            today += n;
            return today;
        }

        private int trySet(int what, int v) {
            if (!isSetting(what) || v < 0 || v > MAX_SETTING[what]) {
                return BAD_ARGUMENT;
            }
            int before = setting[what];
            setting[what] = v;
            return before;
        }

        private void pay(int from, int to, int money) {
            if (isHolder(from)) {
                account[from] -= money;
            }
            if (isHolder(to)) {
                account[to] += money;
            } else {
                paidOutside += money;
            }
        }

        private int priceForCore(int u) {
            return setting[EXCHANGE_PRICE] + setting[PART_PRICE] * units.missingParts(u);
        }

        private int lateFees(int due, int day) {
            return setting[LATE_FEE] * Math.max(0, day - due);
        }

        /** The late fees for a unit that is brought so many days later than today. */
        private int feesFor(int u, int later) {
            return !units.has(u) || units.isFree(u) ? 0 : lateFees(units.due[u], today + later);
        }

        /** What a holder would pay as borrower less what it would get as owner. */
        private int feesToPay(int h, int later) {
            int fees = 0;
            for (int u = 0; u < units.count; u++) {
                int fee = feesFor(u, later);
                if (units.place[u] == h) {
                    fees += fee;
                }
                if (units.owner[u] == h) {
                    fees -= fee;
                }
            }
            return fees;
        }

        private int cheapestCore(int h, int kind) {
            int best = NONE;
            for (int u = 0; u < units.count; u++) {
                if (units.isFreeCore(u) && units.isOfKindAt(u, kind, h)
                        && (best == NONE || priceForCore(u) < priceForCore(best))) {
                    best = u;
                }
            }
            return best;
        }

        private int accountWhenAllIsSettled(int h) {
            if (!isHolder(h)) {
                return 0;
            }
            int partsToPay = debts.owedBy(h) - debts.owedTo(h);
            return account[h] - feesToPay(h, 0) - setting[PART_PRICE] * partsToPay;
        }
    }

    /** The states that undo can go back to: a ring with one place to spare for the next one. */
    private static final class History {
        private static final int PLACES = MAX_REMEMBERED + 1;

        private final State[] kept = new State[PLACES];
        private int oldest;
        private int count;

        private History() {
            for (int i = 0; i < PLACES; i++) {
                kept[i] = new State();
            }
        }

        private void forgetAll() {
            count = 0;
        }

        /** Copies the state before an action that may still be refused: nothing is forgotten yet. */
        private void prepare(State before) {
            kept[(oldest + count) % PLACES].copyFrom(before);
        }

        private void keepPrepared() {
            if (count < MAX_REMEMBERED) {
                count++;
            } else {
                oldest = (oldest + 1) % PLACES;
            }
        }

        private void takeBack(State into) {
            if (count > 0) {
                count--;
                into.copyFrom(kept[(oldest + count) % PLACES]);
            }
        }
    }

    /** The text buffer, and the rules for a pool as a text. */
    private static final class Text {
        private final int[] signs = new int[MAX_TEXT];
        private int length;
        // What readCommand found: a command with its numbers, or the place of the error.
        private int command;
        private int first;
        private int second;
        private int third;
        private int error;

        private int add(int c) {
            if (length < MAX_TEXT) {
                signs[length] = c;
                length++;
            }
            return length;
        }

        private int firstError() {
            if (length == 0 || signs[0] != 'U') {
                return 0;
            }
            int at = 1;
            while (at < length) {
                int next = readCommand(at);
                if (next <= at) {
                    return error;
                }
                at = next;
            }
            return NONE;
        }

        /** Answers where the command that begins here ends, or NONE if it is none. */
        private int readCommand(int begin) {
            error = begin;
            if (begin < 0 || begin >= length) {
                return NONE;
            }
            command = signs[begin];
            String fields = fieldsOf(command);
            if (fields.isEmpty()) {
                return NONE;
            }
            int at = begin + 1;
            for (int i = 0; i < fields.length(); i++) {
                int field = fields.charAt(i);
                int number = readNumber(at, field);
                if (number == NONE) {
                    return NONE;
                }
                put(i, number);
                at += digitsOf(field);
            }
            return at;
        }

        private void put(int i, int number) {
            if (i == 0) {
                first = number;
            } else if (i == 1) {
                second = number;
            } else {
                third = number;
            }
        }

        /** NONE, and the place in error, if no number of this field stands here. */
        private int readNumber(int begin, int field) {
            int digits = digitsOf(field);
            int low = lowestOf(field);
            int high = highestOf(field);
            int number = 0;
            int open = digits == 2 ? 10 : 1;
            for (int i = 0; i < digits; i++) {
                int at = begin + i;
                error = at;
                if (at < 0 || at >= length || signs[at] < '0' || signs[at] > '9') {
                    return NONE;
                }
                number += (signs[at] - '0') * open;
                // The digits still open can add 0 up to open - 1.
                if (number > high || number + open - 1 < low) {
                    return NONE;
                }
                open /= 10;
            }
            return number;
        }

        /** The numbers behind a command: k kind, h holder, b parts as bits, u unit, t term, p part, n days. */
        private static String fieldsOf(int command) {
            switch (command) {
                case 'n': return "khb";
                case 'l': return "uht";
                case 'r': return "u";
                case 'x': return "uu";
                case 't': return "uup";
                case 'd': return "n";
                default: return "";
            }
        }

        private static int digitsOf(int field) {
            return field == 'u' || field == 't' ? 2 : 1;
        }

        private static int lowestOf(int field) {
            return field == 't' || field == 'n' ? 1 : 0;
        }

        private static int highestOf(int field) {
            switch (field) {
                case 'k': return KINDS - 1;
                case 'h': return HOLDERS - 1;
                case 'b': return ALL_PARTS;
                case 'u': return MAX_UNITS - 1;
                case 't': return MAX_TERM;
                case 'p': return PARTS - 1;
                default: return 9;
            }
        }
    }

    /** The commands of runScript, groups of six decimal digits. */
    private static final class Script {
        private static final long GROUP = 1_000_000L;

        private static long limit(int n) {
            long limit = 1;
            for (int i = 0; i < n && i < MAX_COMMANDS; i++) {
                limit *= GROUP;
            }
            return limit;
        }

        private static int group(long script, int fromRight) {
            long rest = script;
            for (int i = 0; i < fromRight && i < MAX_COMMANDS; i++) {
                rest /= GROUP;
            }
            return (int) (rest % GROUP);
        }

        private static boolean succeeds(State state, int group) {
            int second = group / 10_000 % 10;
            int secondThird = group / 1_000 % 100;
            int fourth = group / 100 % 10;
            int fourthFifth = group / 10 % 100;
            int fifthSixth = group % 100;
            int sixth = group % 10;
            boolean zerosBetween = group / 100 % 1_000 == 0;
            switch (group / 100_000) {
                case 1: return state.tryLend(secondThird, fourth, fifthSixth) >= 0;
                case 2: return zerosBetween && state.tryBring(fifthSixth) >= 0;
                case 3: return sixth == 0 && state.tryExchange(secondThird, fourthFifth) >= 0;
                case 4: return state.tryTake(secondThird, fourthFifth, sixth) >= 0;
                case 5: return zerosBetween && state.tryDays(fifthSixth) >= 0;
                case 6: return fifthSixth == 0 && state.tryBuy(secondThird, fourth) >= 0;
                case 7: return fifthSixth == 0 && isAt(state, secondThird, fourth);
                case 8: return sixth == 0 && hasMoney(state, second, group / 10 % 1_000 - 500);
                case 9: return zerosBetween && state.units.usableOnes() >= fifthSixth;
                default: return false;
            }
        }

        private static boolean isAt(State state, int u, int h) {
            return state.units.has(u) && isHolder(h) && state.units.place[u] == h;
        }

        private static boolean hasMoney(State state, int h, int money) {
            return isHolder(h) && state.account[h] >= money;
        }
    }

    /** The turns of simulate, each told by a number r of 0 or more. */
    private static final class Simulation {
        /** Answers what the action answers, below 0 if it is left out. */
        private static int turn(State state, int r) {
            int n = Math.max(1, state.units.count);
            int u = r / 16 % n;
            int v = r / 256 % n;
            int h = r / 4096 % HOLDERS;
            int high = r / 32768;
            switch (r % 16) {
                case 0:
                case 1:
                case 2: return state.tryCome(r / 16 % KINDS, h, r / 64 % 8);
                case 3:
                case 4: return state.tryLend(u, h, 1 + high % 9);
                case 5: return state.tryBring(u);
                case 6:
                case 7: return state.tryExchange(u, v);
                case 8: return state.tryAdvance(h, v, 1 + high % 9);
                case 9: return state.tryDeliver(u);
                case 10:
                case 11:
                case 12: return state.tryTake(u, v, high % PARTS);
                case 13: return state.tryBuy(u, high % PARTS);
                case 14: return state.trySettle(h, high % HOLDERS, r / 16 % KINDS, r / 64 % PARTS);
                default: return state.tryDays(1 + high % 9);
            }
        }
    }
}
