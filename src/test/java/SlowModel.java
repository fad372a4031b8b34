import java.util.ArrayList;
import java.util.List;

/** The document's words done the slow way: each answer by trying all that can be tried. */
final class SlowModel {
    /** A part of what slips tells; worth by thick, wet, above, below, damp, foes, day. */
    interface Part {
        int worth(int[] facts);
    }

    static final class State {
        final List<Integer> stack = new ArrayList<>();
        int pinned;
        int damp;
        int day;
        int seed;

        State copy() {
            State other = new State();
            other.stack.addAll(stack);
            other.pinned = pinned;
            other.damp = damp;
            other.day = day;
            other.seed = seed;
            return other;
        }

        int bits() {
            int bits = 0;
            for (int layer : stack) {
                bits |= 1 << layer;
            }
            return bits;
        }
    }

    int powers;
    int[] powerOf = new int[0];
    int[] thick = new int[0];
    int[] wet = new int[0];
    Part slips = facts -> facts[1] * facts[2] / 9 + facts[4] - facts[0];
    int units;
    int damps = 1;
    int pick = 3;
    int sun;
    int draw;

    State now = new State();
    final List<State> past = new ArrayList<>();
    final List<State> future = new ArrayList<>();
    final State[] boxes = new State[3];
    List<Integer> lying = new ArrayList<>();
    final List<int[]> tastings = new ArrayList<>();
    int time;

    void begin() {
        now = first();
        past.clear();
        future.clear();
        boxes[0] = null;
        boxes[1] = null;
        boxes[2] = null;
        lying.clear();
        tastings.clear();
    }

    private State first() {
        State state = new State();
        for (int i = 0; i < thick.length; i++) {
            state.stack.add(i);
        }
        state.seed = draw;
        return state;
    }

    private boolean isLayer(int layer) {
        return layer >= 0 && layer < thick.length;
    }

    private boolean isPower(int power) {
        return power >= 0 && power < powers;
    }

    private int thickness(List<Integer> layers) {
        int sum = 0;
        for (int layer : layers) {
            sum += thick[layer];
        }
        return sum;
    }

    private int foes(State s, int place) {
        int foes = 0;
        for (int next : new int[] {place - 1, place + 1}) {
            if (next >= 0 && next < s.stack.size() && powerOf[s.stack.get(next)] != powerOf[s.stack.get(place)]) {
                foes++;
            }
        }
        return foes;
    }

    private int slip(State s, int place) {
        int layer = s.stack.get(place);
        int above = thickness(s.stack.subList(place + 1, s.stack.size()));
        return slips.worth(new int[] {thick[layer], wet[layer], above, place, s.damp, foes(s, place), s.day});
    }

    private int shaky(State s) {
        int bits = 0;
        for (int place = 0; place < s.stack.size(); place++) {
            int bit = 1 << s.stack.get(place);
            if ((s.pinned & bit) == 0 && slip(s, place) > 0) {
                bits |= bit;
            }
        }
        return bits;
    }

    private static void out(State s, int bits) {
        s.stack.removeIf(layer -> (bits >> layer & 1) == 1);
        s.pinned &= ~bits;
    }

    private int pass(State s, boolean bySeed, int more) {
        int gone = shaky(s);
        out(s, gone);
        s.seed = (s.seed * 137 + 71) % 1000;
        s.damp = bySeed && s.seed % 100 < sun ? s.damp / 2 : Math.min(99, s.damp + more);
        s.day++;
        return gone;
    }

    private State behind(State from, int n, boolean bySeed) {
        State s = from.copy();
        for (int i = 0; i < n; i++) {
            pass(s, bySeed, damps);
        }
        return s;
    }

    // ---- the face

    int layer(int layer, int what) {
        if (!isLayer(layer) || what < 0 || what > 6) {
            return -2;
        }
        int place = now.stack.indexOf(layer);
        int above = place < 0 ? 0 : thickness(now.stack.subList(place + 1, now.stack.size()));
        return new int[] {powerOf[layer], thick[layer], wet[layer], place, now.pinned >> layer & 1, above,
            place < 0 ? 0 : foes(now, place)}[what];
    }

    int slip(int layer) {
        int place = now.stack.indexOf(layer);
        return place < 0 ? -1000000000 : slip(now, place);
    }

    private int layersIn(int power) {
        int bits = 0;
        for (int layer : now.stack) {
            bits |= powerOf[layer] == power ? 1 << layer : 0;
        }
        return bits;
    }

    private int thicknessOf(int bits) {
        int sum = 0;
        for (int layer = 0; layer < thick.length; layer++) {
            sum += (bits >> layer & 1) * thick[layer];
        }
        return sum;
    }

    int power(int power, int what) {
        if (!isPower(power) || what < 0 || what > 2) {
            return -1;
        }
        int next = 0;
        for (int i = 0; i + 1 < now.stack.size(); i++) {
            int p = powerOf[now.stack.get(i)];
            int q = powerOf[now.stack.get(i + 1)];
            if (p != q) {
                next |= p == power ? 1 << q : q == power ? 1 << p : 0;
            }
        }
        return new int[] {layersIn(power), thicknessOf(layersIn(power)), next}[what];
    }

    int at(int place) {
        return place < 0 || place >= now.stack.size() ? -1 : now.stack.get(place);
    }

    private void act(State then) {
        past.add(now);
        if (past.size() > 40) {
            past.remove(0);
        }
        future.clear();
        now = then;
    }

    int day() {
        if (now.day >= 999) {
            return -1;
        }
        State then = now.copy();
        int gone = pass(then, true, damps);
        act(then);
        return gone;
    }

    int lay(int layer) {
        if (!isLayer(layer) || now.stack.contains(layer)) {
            return -1;
        }
        State then = now.copy();
        then.stack.add(layer);
        act(then);
        return then.stack.size() - 1;
    }

    int pull(int layer) {
        int place = now.stack.indexOf(layer);
        if (place >= 0) {
            State then = now.copy();
            out(then, 1 << layer);
            act(then);
        }
        return place;
    }

    int move(int layer, int place) {
        int from = now.stack.indexOf(layer);
        if (from < 0 || place < 0 || place >= now.stack.size() || place == from) {
            return -1;
        }
        State then = now.copy();
        then.stack.remove(from);
        then.stack.add(place, layer);
        act(then);
        return from;
    }

    int pin(int layer, boolean is) {
        if (!now.stack.contains(layer) || (now.pinned >> layer & 1) == (is ? 1 : 0)) {
            return -1;
        }
        State then = now.copy();
        then.pinned ^= 1 << layer;
        act(then);
        return Integer.bitCount(then.pinned);
    }

    boolean undo() {
        if (past.isEmpty()) {
            return false;
        }
        future.add(now);
        now = past.remove(past.size() - 1);
        return true;
    }

    boolean redo() {
        if (future.isEmpty()) {
            return false;
        }
        past.add(now);
        now = future.remove(future.size() - 1);
        return true;
    }

    int shaky() {
        return shaky(now);
    }

    int stands(int n, int what) {
        return n < 0 || n > 60 || what < 0 || what > 1 ? -1 : behind(now, n, what == 1).bits();
    }

    int lasts(int layer) {
        for (int n = 0; n <= 60 && isLayer(layer); n++) {
            if (!behind(now, n, false).stack.contains(layer)) {
                return n;
            }
        }
        return -1;
    }

    int holds() {
        for (int n = 1; n <= 60; n++) {
            if (behind(now, n, false).stack.size() < now.stack.size()) {
                return n;
            }
        }
        return -1;
    }

    int order() {
        List<Integer> rest = new ArrayList<>(now.stack);
        rest.sort(null);
        int[] best = {Integer.MAX_VALUE, 0};
        lying = new ArrayList<>();
        tryOrders(new ArrayList<>(), rest, best);
        return best[0];
    }

    private void tryOrders(List<Integer> begun, List<Integer> rest, int[] best) {
        if (rest.isEmpty()) {
            State s = now.copy();
            s.stack.clear();
            s.stack.addAll(begun);
            int shaky = shaky(s);
            int count = Integer.bitCount(shaky);
            int steady = thicknessOf(s.bits() & ~shaky);
            if (count < best[0] || count == best[0] && steady > best[1]) {
                best[0] = count;
                best[1] = steady;
                lying = new ArrayList<>(begun);
            }
            return;
        }
        for (int i = 0; i < rest.size(); i++) {
            int layer = rest.remove(i);
            begun.add(layer);
            tryOrders(begun, rest, best);
            begun.remove(begun.size() - 1);
            rest.add(i, layer);
        }
    }

    int stay(int what) {
        if (what < 0 || what > 1) {
            return -1;
        }
        int best = 0;
        for (int set = 0; set < 256; set++) {
            if ((set & ~now.bits()) != 0) {
                continue;
            }
            State s = now.copy();
            out(s, ~set);
            int more = Integer.compare(Integer.bitCount(set), Integer.bitCount(best));
            boolean better = more > 0 || more == 0 && thicknessOf(set) > thicknessOf(best);
            if (shaky(s) == 0 && better) {
                best = set;
            }
        }
        return what == 0 ? Integer.bitCount(best) : best;
    }

    int pins(int n, int what) {
        if (n < 0 || n > 20 || what < 0 || what > 1) {
            return -1;
        }
        int best = -1;
        for (int set = 0; set < 256; set++) {
            if ((set & ~(now.bits() & ~now.pinned)) != 0 || best >= 0 && Integer.bitCount(set) >= Integer.bitCount(best)) {
                continue;
            }
            State s = now.copy();
            s.pinned |= set;
            if (behind(s, n, false).stack.size() == now.stack.size()) {
                best = set;
            }
        }
        return what == 0 ? Integer.bitCount(best) : best;
    }

    int picks() {
        int places = 0;
        for (int place = 0; place < now.stack.size(); place++) {
            places |= (shaky(now) >> now.stack.get(place) & 1) << place;
        }
        int fewest = 99;
        for (int set = 0; set < 256; set++) {
            int held = 0;
            for (int place = 0; place < 8; place++) {
                if ((set >> place & 1) == 1) {
                    held |= ((1 << pick) - 1) << place;
                }
            }
            if ((places & ~held) == 0) {
                fewest = Math.min(fewest, Integer.bitCount(set));
            }
        }
        lying = new ArrayList<>();
        while (places != 0) {
            int lowest = Integer.numberOfTrailingZeros(places);
            lying.add(lowest);
            places &= ~(((1 << pick) - 1) << lowest);
        }
        return fewest;
    }

    int cut(int what) {
        if (now.stack.size() < 2 || what < 0 || what > 1) {
            return -1;
        }
        int[] best = {0, 9999};
        for (int place = 1; place < now.stack.size(); place++) {
            int below = thickness(now.stack.subList(0, place));
            int above = thickness(now.stack.subList(place, now.stack.size()));
            if (Math.abs(below - above) < best[1]) {
                best = new int[] {place, Math.abs(below - above)};
            }
        }
        return best[what];
    }

    int change(int n, int what) {
        if (n < 0 || n > 20 || what < 0 || what > 2) {
            return -1;
        }
        int[] best = {-1, -1, behind(now, n, false).stack.size()};
        for (int one = 0; one < thick.length; one++) {
            for (int other = one + 1; other < thick.length; other++) {
                int place = now.stack.indexOf(one);
                int otherPlace = now.stack.indexOf(other);
                if (place < 0 || otherPlace < 0) {
                    continue;
                }
                State s = now.copy();
                s.stack.set(place, other);
                s.stack.set(otherPlace, one);
                int left = behind(s, n, false).stack.size();
                if (left > best[2]) {
                    best = new int[] {one, other, left};
                }
            }
        }
        return best[0] < 0 ? -1 : best[what];
    }

    int pillars() {
        int bits = 0;
        for (int layer : now.stack) {
            State s = now.copy();
            out(s, 1 << layer);
            if ((shaky(s) & ~shaky(now)) != 0) {
                bits |= 1 << layer;
            }
        }
        return bits;
    }

    int between(int power, int other) {
        if (power == other || !isPower(power) || !isPower(other)) {
            return -1;
        }
        int bits = 0;
        int size = now.stack.size();
        for (int low = 0; low < size; low++) {
            for (int mid = low + 1; mid < size; mid++) {
                for (int high = mid + 1; high < size; high++) {
                    int p = powerOf[now.stack.get(low)];
                    int q = powerOf[now.stack.get(mid)];
                    int r = powerOf[now.stack.get(high)];
                    boolean ends = p == power && r == other || p == other && r == power;
                    if (ends && q != power && q != other) {
                        bits |= 1 << q;
                    }
                }
            }
        }
        return bits;
    }

    int wedged(int power) {
        if (!isPower(power)) {
            return -1;
        }
        int bits = 0;
        for (int i = 1; i + 1 < now.stack.size(); i++) {
            boolean held = powerOf[now.stack.get(i - 1)] == power && powerOf[now.stack.get(i + 1)] == power;
            if (held && powerOf[now.stack.get(i)] != power) {
                bits |= 1 << now.stack.get(i);
            }
        }
        return bits;
    }

    int game(int power, int other, int n, int what) {
        if (power == other || !isPower(power) || !isPower(other) || n < 1 || n > 4 || what < 0 || what > 1) {
            return -1000;
        }
        return play(now, power, other, n)[what];
    }

    /** How much more the mover has in the end, and what it lays. */
    private int[] play(State s, int mover, int other, int turns) {
        if (turns == 0) {
            State end = behind(s, 1, false);
            int lead = 0;
            for (int layer : end.stack) {
                lead += powerOf[layer] == mover ? thick[layer] : powerOf[layer] == other ? -thick[layer] : 0;
            }
            return new int[] {lead, -1};
        }
        int[] best = {-play(s, other, mover, turns - 1)[0], -1};
        for (int layer = 0; layer < thick.length; layer++) {
            if (powerOf[layer] == mover && !s.stack.contains(layer)) {
                State then = s.copy();
                then.stack.add(layer);
                int lead = -play(then, other, mover, turns - 1)[0];
                if (lead > best[0]) {
                    best = new int[] {lead, layer};
                }
            }
        }
        return best;
    }

    int height() {
        return thickness(now.stack);
    }

    int greatest() {
        int best = -1;
        for (int power = powers - 1; power >= 0; power--) {
            if (best < 0 || thicknessOf(layersIn(power)) >= thicknessOf(layersIn(best))) {
                best = power;
            }
        }
        return best;
    }

    int absent() {
        int bits = 0;
        for (int power = 0; power < powers; power++) {
            bits |= layersIn(power) == 0 ? 1 << power : 0;
        }
        return bits;
    }

    int loosest() {
        int best = -1;
        for (int layer = thick.length - 1; layer >= 0; layer--) {
            boolean free = now.stack.contains(layer) && (now.pinned >> layer & 1) == 0;
            if (free && (best < 0 || slip(layer) >= slip(best))) {
                best = layer;
            }
        }
        return best;
    }

    int law(int n) {
        State s = now.copy();
        s.damp = n;
        return n < 0 || n > 99 ? -1 : Integer.bitCount(shaky(s));
    }

    int soaks(int layer) {
        int place = now.stack.indexOf(layer);
        for (int damp = 0; damp < 100 && place >= 0; damp++) {
            State s = now.copy();
            s.damp = damp;
            if (slip(s, place) > 0) {
                return damp;
            }
        }
        return -1;
    }

    int damp(int n) {
        return n < 0 || n > 60 ? -1 : behind(now, n, true).damp;
    }

    int odds(int n, int part) {
        if (n < 0 || n > 4 || part < 0 || part > 1) {
            return -1;
        }
        long upper = 1;
        long lower = 1;
        for (int i = 0; i < n; i++) {
            upper *= 100 - sun;
            lower *= 100;
        }
        long a = upper;
        long b = lower;
        while (b != 0) {
            long c = a % b;
            a = b;
            b = c;
        }
        return (int) ((part == 0 ? upper : lower) / a);
    }

    int lies(int i) {
        return i < 0 || i >= lying.size() ? -1 : lying.get(i);
    }

    int tasted(int days, int layer, boolean is) {
        if (days < 0 || days > 12 || !isLayer(layer) || tastings.size() >= 30) {
            return -1;
        }
        tastings.add(new int[] {days, layer, is ? 1 : 0, time, Integer.MAX_VALUE});
        return tastings.size() - 1;
    }

    boolean untell(int number) {
        if (number < 0 || number >= tastings.size() || tastings.get(number)[4] != Integer.MAX_VALUE) {
            return false;
        }
        tastings.get(number)[4] = time;
        return true;
    }

    int later(int by) {
        if (by < 0 || by > 1000 || time + by > 100000) {
            return -1;
        }
        time += by;
        return time;
    }

    boolean stood(int more, int days, int layer) {
        State s = first();
        for (int i = 0; i < days; i++) {
            pass(s, false, more);
        }
        return s.stack.contains(layer);
    }

    private List<Integer> fitting(int k) {
        List<Integer> fitting = new ArrayList<>();
        for (int more = 0; more <= 30; more++) {
            boolean fits = true;
            for (int[] t : tastings) {
                if (t[3] <= k && (t[4] == Integer.MAX_VALUE || t[4] > k)) {
                    fits &= stood(more, t[0], t[1]) == (t[2] == 1);
                }
            }
            if (fits) {
                fitting.add(more);
            }
        }
        return fitting;
    }

    int fits(int k) {
        return fitting(k).size();
    }

    int sure(int what, int k) {
        List<Integer> fitting = fitting(k);
        if (fitting.isEmpty() || what < 0 || what > 1) {
            return -1;
        }
        return fitting.get(what == 0 ? 0 : fitting.size() - 1);
    }

    int ask(int days, int what, int k) {
        List<Integer> fitting = fitting(k);
        if (days < 0 || days > 12 || what < 0 || what > 1 || fitting.isEmpty() || thick.length == 0) {
            return -1;
        }
        int[] best = {-1, 99};
        for (int layer = 0; layer < thick.length; layer++) {
            int yes = 0;
            for (int more : fitting) {
                yes += stood(more, days, layer) ? 1 : 0;
            }
            int left = Math.max(yes, fitting.size() - yes);
            if (left < best[1]) {
                best = new int[] {layer, left};
            }
        }
        return best[what];
    }

    int image(int box) {
        if (box < 0 || box > 2) {
            return -1;
        }
        boxes[box] = now;
        return now.day;
    }

    int back(int box) {
        if (box < 0 || box > 2 || boxes[box] == null) {
            return -1;
        }
        now = boxes[box];
        past.clear();
        future.clear();
        return now.day;
    }

    int about(int what) {
        int[] all = {thick.length, powers, now.stack.size(), now.pinned, now.damp, now.day, now.seed, past.size(),
            future.size(), tastings.size(), time, 0, units, lying.size(), damps, pick};
        return what < 0 || what >= all.length ? -1 : all[what];
    }
}
