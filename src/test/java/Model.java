import java.util.ArrayDeque;
import java.util.ArrayList;
import java.util.Deque;
import java.util.HashMap;
import java.util.List;
import java.util.Map;
import java.util.regex.Matcher;
import java.util.regex.Pattern;

/** The document once more, by other means and without regard to speed: what ModelTest compares with. */
final class Model {
    private static final Pattern POOL = Pattern.compile(
            "U(n[0-2][0-4][0-7]|l(0[0-9]|1[0-5])[0-4](0[1-9]|[12][0-9]|30)|r(0[0-9]|1[0-5])"
            + "|x(0[0-9]|1[0-5]){2}|t(0[0-9]|1[0-5]){2}[0-2]|d[1-9])*");

    private static final class Unit {
        int kind;
        int owner;
        int place;
        String parts = "";
        int due = -1;

        boolean has(int part) {
            return parts.indexOf('0' + part) >= 0;
        }

        boolean free() {
            return place == owner;
        }

        boolean usable() {
            return has(0) && has(1) && has(2);
        }
    }

    private record Core(int kind, int due) {
    }

    private record Debt(int by, int to, int kind, int part) {
    }

    private List<Unit> units = new ArrayList<>();
    private List<List<Core>> cores = new ArrayList<>();
    private Map<Debt, Integer> debts = new HashMap<>();
    private int[] money = new int[5];
    private int[] settings = {5, 100, 20};
    private int today;
    private int taken;
    private int exchanges;
    private int outside;
    private Deque<Model> past = new ArrayDeque<>();
    private Model[] slots = new Model[2];
    private StringBuilder text = new StringBuilder();

    Model() {
        for (int h = 0; h < 5; h++) {
            cores.add(new ArrayList<>());
        }
    }

    private void become(Model other) {
        units = new ArrayList<>();
        for (Unit unit : other.units) {
            Unit copy = new Unit();
            copy.kind = unit.kind;
            copy.owner = unit.owner;
            copy.place = unit.place;
            copy.parts = unit.parts;
            copy.due = unit.due;
            units.add(copy);
        }
        cores = new ArrayList<>();
        for (List<Core> row : other.cores) {
            cores.add(new ArrayList<>(row));
        }
        debts = new HashMap<>(other.debts);
        money = other.money.clone();
        settings = other.settings.clone();
        today = other.today;
        taken = other.taken;
        exchanges = other.exchanges;
        outside = other.outside;
    }

    private Model copy() {
        Model copy = new Model();
        copy.become(this);
        return copy;
    }

    private void remember() {
        past.addLast(copy());
        if (past.size() > 14) {
            past.removeFirst();
        }
    }

    private static void index(boolean exists) {
        if (!exists) {
            throw new IndexOutOfBoundsException();
        }
    }

    private static void argument(boolean right) {
        if (!right) {
            throw new IllegalArgumentException();
        }
    }

    private static void state(boolean right) {
        if (!right) {
            throw new IllegalStateException();
        }
    }

    private static boolean in(int low, int x, int high) {
        return low <= x && x <= high;
    }

    private boolean isUnit(int u) {
        return in(0, u, units.size() - 1);
    }

    private void move(int from, int to, int price) {
        money[from] -= price;
        money[to] += price;
    }

    private int fees(int due) {
        return today > due ? (today - due) * settings[0] : 0;
    }

    private int corePrice(Unit unit) {
        return settings[1] + (3 - unit.parts.length()) * settings[2];
    }

    int append(int c) {
        argument(in(0, c, 255));
        state(text.length() < 120);
        text.append((char) c);
        return text.length();
    }

    int clearText() {
        int length = text.length();
        text = new StringBuilder();
        return length;
    }

    int errorPosition() {
        for (int i = 0; i < text.length(); i++) {
            Matcher matcher = POOL.matcher(text.substring(0, i + 1));
            if (!matcher.matches() && !matcher.hitEnd()) {
                return i;
            }
        }
        return POOL.matcher(text).matches() ? -1 : text.length();
    }

    int load() {
        state(errorPosition() == -1);
        become(new Model());
        int leftOut = 0;
        for (String part : text.substring(1).split("(?=[nlrxtd])")) {
            leftOut += part.isEmpty() || doCommand(part) ? 0 : 1;
        }
        past.clear();
        slots = new Model[2];
        return leftOut;
    }

    private boolean doCommand(String s) {
        int[] d = new int[s.length()];
        for (int i = 1; i < d.length; i++) {
            d[i] = s.charAt(i) - '0';
        }
        switch (s.charAt(0)) {
            case 'n': return does(() -> come(d[1], d[2], d[3]));
            case 'l': return does(() -> lend(10 * d[1] + d[2], d[3], 10 * d[4] + d[5]));
            case 'r': return does(() -> bring(10 * d[1] + d[2]));
            case 'x': return does(() -> exchange(10 * d[1] + d[2], 10 * d[3] + d[4]));
            case 't': return does(() -> take(10 * d[1] + d[2], 10 * d[3] + d[4], d[5]));
            default: return does(() -> days(d[1]));
        }
    }

    private static boolean does(Check.Call call) {
        try {
            call.run();
            return true;
        } catch (RuntimeException e) {
            return false;
        }
    }

    int about(int what) {
        argument(in(0, what, 9));
        int usable = 0;
        int lent = 0;
        int late = 0;
        for (Unit unit : units) {
            usable += unit.usable() ? 1 : 0;
            lent += unit.free() ? 0 : 1;
            late += !unit.free() && unit.due < today ? 1 : 0;
        }
        int owedCores = 0;
        for (List<Core> row : cores) {
            owedCores += row.size();
        }
        int owedParts = 0;
        for (int n : debts.values()) {
            owedParts += n;
        }
        return new int[] {today, units.size(), usable, lent, late, owedCores, owedParts, taken, exchanges, outside}[what];
    }

    int unit(int u, int what) {
        index(isUnit(u));
        argument(in(0, what, 5));
        Unit unit = units.get(u);
        int bits = 0;
        for (char part : unit.parts.toCharArray()) {
            bits += 1 << part - '0';
        }
        int due = unit.free() ? -1 : unit.due;
        return new int[] {unit.kind, unit.owner, unit.place, bits, due, unit.free() ? 0 : fees(unit.due)}[what];
    }

    int holder(int h, int what) {
        index(in(0, h, 4));
        argument(in(0, what, 6));
        int owns = 0;
        int here = 0;
        int borrowed = 0;
        for (Unit unit : units) {
            owns += unit.owner == h ? 1 : 0;
            here += unit.place == h ? 1 : 0;
            borrowed += unit.place == h && !unit.free() ? 1 : 0;
        }
        int owes = 0;
        int gets = 0;
        for (Map.Entry<Debt, Integer> debt : debts.entrySet()) {
            owes += debt.getKey().by() == h ? debt.getValue() : 0;
            gets += debt.getKey().to() == h ? debt.getValue() : 0;
        }
        return new int[] {money[h], owns, here, borrowed, cores.get(h).size(), owes, gets}[what];
    }

    int owed(int h, int other, int kind, int part) {
        index(in(0, h, 4) && in(0, other, 4) && in(0, kind, 2) && in(0, part, 2));
        return debts.getOrDefault(new Debt(h, other, kind, part), 0);
    }

    int core(int h, int k, int what) {
        index(in(0, h, 4));
        argument(k >= 0 && in(0, what, 1));
        if (k >= cores.get(h).size()) {
            return -1;
        }
        Core core = cores.get(h).get(k);
        return what == 0 ? core.kind() : core.due();
    }

    int setting(int what) {
        argument(in(0, what, 2));
        return settings[what];
    }

    int come(int kind, int owner, int parts) {
        index(in(0, kind, 2) && in(0, owner, 4));
        argument(in(0, parts, 7));
        state(units.size() < 16);
        remember();
        Unit unit = new Unit();
        unit.kind = kind;
        unit.owner = owner;
        unit.place = owner;
        for (int part = 0; part < 3; part++) {
            unit.parts += (parts >> part & 1) == 1 ? "" + part : "";
        }
        units.add(unit);
        return units.size() - 1;
    }

    int lend(int u, int h, int days) {
        index(isUnit(u) && in(0, h, 4));
        argument(in(1, days, 30));
        Unit unit = units.get(u);
        state(unit.free() && h != unit.owner);
        remember();
        unit.place = h;
        unit.due = today + days;
        return unit.due;
    }

    int bring(int u) {
        index(isUnit(u));
        Unit unit = units.get(u);
        state(!unit.free());
        remember();
        int price = fees(unit.due);
        move(unit.place, unit.owner, price);
        unit.place = unit.owner;
        return price;
    }

    int exchange(int u, int v) {
        index(isUnit(u) && isUnit(v));
        Unit core = units.get(u);
        Unit good = units.get(v);
        state(core.owner != 4 && core.free());
        state(good.owner == 4 && good.free() && good.usable());
        state(core.kind == good.kind);
        remember();
        int h = core.owner;
        int price = corePrice(core);
        move(h, 4, price);
        core.owner = 4;
        core.place = 4;
        good.owner = h;
        good.place = h;
        exchanges++;
        return price;
    }

    int advance(int h, int v, int days) {
        index(in(0, h, 4) && isUnit(v));
        argument(in(1, days, 30));
        Unit good = units.get(v);
        state(h != 4 && cores.get(h).size() < 6);
        state(good.owner == 4 && good.free() && good.usable());
        remember();
        good.owner = h;
        good.place = h;
        cores.get(h).add(new Core(good.kind, today + days));
        exchanges++;
        return today + days;
    }

    int deliver(int u) {
        index(isUnit(u));
        Unit unit = units.get(u);
        state(unit.owner != 4 && unit.free());
        int h = unit.owner;
        Core oldest = null;
        for (Core core : cores.get(h)) {
            oldest = oldest == null && core.kind() == unit.kind ? core : oldest;
        }
        state(oldest != null);
        remember();
        int price = corePrice(unit) + fees(oldest.due());
        cores.get(h).remove(oldest);
        move(h, 4, price);
        unit.owner = 4;
        unit.place = 4;
        return price;
    }

    int take(int u, int v, int part) {
        index(isUnit(u) && isUnit(v) && in(0, part, 2));
        Unit giver = units.get(u);
        Unit getter = units.get(v);
        state(giver.kind == getter.kind && giver.place == getter.place && giver.has(part) && !getter.has(part));
        remember();
        giver.parts = giver.parts.replace("" + part, "");
        getter.parts += part;
        taken++;
        Debt there = new Debt(getter.owner, giver.owner, giver.kind, part);
        Debt back = new Debt(giver.owner, getter.owner, giver.kind, part);
        if (giver.owner != getter.owner) {
            if (debts.containsKey(back)) {
                lessen(back);
            } else {
                debts.merge(there, 1, Integer::sum);
            }
        }
        return debts.getOrDefault(there, 0);
    }

    private void lessen(Debt debt) {
        debts.computeIfPresent(debt, (d, n) -> n == 1 ? null : n - 1);
    }

    int settle(int h, int other, int kind, int part) {
        state(owed(h, other, kind, part) > 0);
        remember();
        lessen(new Debt(h, other, kind, part));
        move(h, other, settings[2]);
        return owed(h, other, kind, part);
    }

    int buy(int u, int part) {
        index(isUnit(u) && in(0, part, 2));
        state(!units.get(u).has(part));
        remember();
        units.get(u).parts += part;
        money[units.get(u).owner] -= settings[2];
        outside += settings[2];
        return unit(u, 3);
    }

    int days(int n) {
        argument(in(1, n, 99));
        remember();
        today += n;
        return today;
    }

    int set(int what, int v) {
        argument(in(0, what, 2));
        argument(in(0, v, what == 0 ? 99 : 999));
        remember();
        int before = settings[what];
        settings[what] = v;
        return before;
    }

    int undo() {
        state(!past.isEmpty());
        become(past.removeLast());
        return past.size();
    }

    int complete(int h, int kind) {
        return mostAndFewest(h, kind)[0];
    }

    int takings(int h, int kind) {
        return mostAndFewest(h, kind)[1];
    }

    /** Tries every set of units that could be the usable ones. */
    private int[] mostAndFewest(int h, int kind) {
        index(in(0, h, 4) && in(0, kind, 2));
        List<Unit> here = new ArrayList<>();
        int[] there = new int[3];
        for (Unit unit : units) {
            if (unit.place == h && unit.kind == kind) {
                here.add(unit);
                for (int part = 0; part < 3; part++) {
                    there[part] += unit.has(part) ? 1 : 0;
                }
            }
        }
        int[] best = {0, 0};
        for (int set = 0; set < 1 << here.size(); set++) {
            int size = Integer.bitCount(set);
            int gaps = 0;
            for (int i = 0; i < here.size(); i++) {
                gaps += (set >> i & 1) * (3 - here.get(i).parts.length());
            }
            boolean can = there[0] >= size && there[1] >= size && there[2] >= size;
            if (can && (size > best[0] || size == best[0] && gaps < best[1])) {
                best = new int[] {size, gaps};
            }
        }
        return best;
    }

    int bill(int h, int n) {
        index(in(0, h, 4));
        argument(in(0, n, 99));
        Model later = copy();
        later.today += n;
        later.bringAll();
        return money[h] - later.money[h];
    }

    private void bringAll() {
        for (int u = 0; u < units.size(); u++) {
            int unit = u;
            does(() -> bring(unit));
        }
    }

    int firstDue() {
        int first = -1;
        for (int day = 0; first < 0 && day <= today + 30; day++) {
            for (int u = units.size() - 1; u >= 0; u--) {
                first = unit(u, 4) == day ? u : first;
            }
        }
        return first;
    }

    int cheapest(int h, int kind) {
        index(in(0, h, 4) && in(0, kind, 2));
        int best = -1;
        int least = Integer.MAX_VALUE;
        for (int u = 0; u < units.size(); u++) {
            Unit unit = units.get(u);
            if (unit.owner == h && unit.free() && unit.kind == kind && h != 4 && corePrice(unit) < least) {
                best = u;
                least = corePrice(unit);
            }
        }
        return best;
    }

    int inDebt() {
        Model later = copy();
        later.bringAll();
        for (Debt debt : debts.keySet()) {
            while (later.debts.containsKey(debt)) {
                later.settle(debt.by(), debt.to(), debt.kind(), debt.part());
            }
        }
        int bits = 0;
        for (int h = 0; h < 5; h++) {
            bits += later.money[h] < 0 ? 1 << h : 0;
        }
        return bits;
    }

    int runScript(int n, long script) {
        argument(in(1, n, 3) && script >= 0);
        String digits = "" + script;
        argument(digits.length() <= 6 * n);
        digits = "0".repeat(6 * n - digits.length()) + digits;
        Model later = copy();
        for (int i = 0; i < n; i++) {
            if (!later.succeeds(digits.substring(6 * i, 6 * i + 6))) {
                return i;
            }
        }
        return -1;
    }

    private static int number(String s, int begin, int end) {
        return Integer.parseInt(s.substring(begin, end));
    }

    private boolean succeeds(String s) {
        int uu = number(s, 1, 3);
        int vv = number(s, 3, 5);
        int h = number(s, 3, 4);
        int last = number(s, 4, 6);
        if (s.matches("1.....")) {
            return does(() -> lend(uu, h, last));
        }
        if (s.matches("2000..")) {
            return does(() -> bring(last));
        }
        if (s.matches("3....0")) {
            return does(() -> exchange(uu, vv));
        }
        if (s.matches("4.....")) {
            return does(() -> take(uu, vv, number(s, 5, 6)));
        }
        if (s.matches("5000..")) {
            return does(() -> days(last));
        }
        if (s.matches("6...00")) {
            return does(() -> buy(uu, h));
        }
        if (s.matches("7..[0-4]00")) {
            return isUnit(uu) && units.get(uu).place == h;
        }
        if (s.matches("8[0-4]...0")) {
            return money[number(s, 1, 2)] >= number(s, 2, 5) - 500;
        }
        return s.matches("9000..") && about(2) >= last;
    }

    int simulate(long seed, int m) {
        argument(in(1, m, 99));
        Model later = copy();
        long x = seed;
        for (int i = 0; i < m; i++) {
            x = x * 6364136223846793005L + 1442695040888963407L;
            int r = (int) (x >>> 33);
            does(() -> later.turn(r));
        }
        return 1000 * later.about(2) + 100 * later.about(5) + later.about(6);
    }

    private int turn(int r) {
        int n = units.isEmpty() ? 1 : units.size();
        int u = r / 16 % n;
        int v = r / 256 % n;
        int h = r / 4096 % 5;
        int w = r / 32768;
        int t = r % 16;
        if (t <= 2) {
            return come(r / 16 % 3, h, r / 64 % 8);
        }
        if (t <= 4) {
            return lend(u, h, 1 + w % 9);
        }
        if (t == 5) {
            return bring(u);
        }
        if (t <= 7) {
            return exchange(u, v);
        }
        if (t == 8) {
            return advance(h, v, 1 + w % 9);
        }
        if (t == 9) {
            return deliver(u);
        }
        if (t <= 12) {
            return take(u, v, w % 3);
        }
        if (t == 13) {
            return buy(u, w % 3);
        }
        return t == 14 ? settle(h, w % 5, r / 16 % 3, r / 64 % 3) : days(1 + w % 9);
    }

    int save(int slot) {
        index(in(0, slot, 1));
        slots[slot] = copy();
        return units.size();
    }

    int restore(int slot) {
        index(in(0, slot, 1));
        state(slots[slot] != null);
        become(slots[slot]);
        past.clear();
        return units.size();
    }
}
