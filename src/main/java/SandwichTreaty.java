/**
 * A treaty told as a sandwich: powers, their layers, and when a layer slips out of the stack.
 * The words in capitals of the document are the words of the comments here.
 */
public final class SandwichTreaty {
    /** There is none; OUT. */
    public static final int NONE = -1;

    private static final int TEXT_LIMIT = 1600;
    private static final int FEED_BYTES = 20;
    private static final int POWER_LIMIT = 4;
    private static final int LAYER_LIMIT = 8;
    private static final int UNIT_LIMIT = 30;
    private static final int DEPTH_LIMIT = 7;
    private static final int WORD_LETTERS = 8;
    private static final int THICK_LIMIT = 20;
    private static final int WET_LIMIT = 20;
    private static final int PICK_LIMIT = 8;
    private static final int NUMBER_DIGITS = 4;

    private static final int DAMP_LIMIT = 99;
    private static final int DAY_LIMIT = 999;
    private static final int OUTLOOK_LIMIT = 60;
    private static final int PLAN_LIMIT = 20;
    private static final int TURN_LIMIT = 4;
    private static final int ODDS_LIMIT = 4;
    private static final int SUN_PARTS = 100;
    private static final int SEED_PARTS = 1000;

    private static final int ACT_LIMIT = 40;
    private static final int BOX_LIMIT = 3;
    private static final int TASTED_LIMIT = 30;
    private static final int TASTED_DAYS = 12;
    private static final int DAMPS_LIMIT = 30;
    private static final int LATER_LIMIT = 1000;
    private static final int TIME_LIMIT = 100000;

    private static final int NO_SUCH_LAYER = -2;
    private static final int NO_SLIP = -1000000000;
    private static final int NO_GAME = -1000;

    private static final int FAULT_TOKEN = 1;
    private static final int FAULT_STAND = 2;
    private static final int FAULT_TWICE = 3;
    private static final int FAULT_NUMBER = 4;
    private static final int FAULT_NAME = 5;

    // Kinds of TOKENS; a sign's kind is its own code, which lies between these and the words'.
    private static final int END = 0;
    private static final int BROKEN = 1;
    private static final int HALTED = 2;
    private static final int NAME = 3;
    private static final int NUMBER = 4;
    private static final String SIGNS = ";()<>=+-*/%";

    // The words that stand for themselves, in the order of their kinds; first those that are units.
    private static final String WORDS =
        "thick wet above below damp foes day power layer of slips damps pick sun draw or and not ";
    private static final int THICK = 128;
    private static final int WET = 129;
    private static final int ABOVE = 130;
    private static final int BELOW = 131;
    private static final int DAMP = 132;
    private static final int FOES = 133;
    private static final int DAY = 134;
    private static final int POWER = 135;
    private static final int LAYER = 136;
    private static final int OF = 137;
    private static final int SLIPS = 138;
    private static final int DAMPS = 139;
    private static final int PICK = 140;
    private static final int SUN = 141;
    private static final int DRAW = 142;
    private static final int OR = 143;
    private static final int AND = 144;
    private static final int NOT = 145;
    private static final int FACTS = DAY - THICK + 1;

    private final Tape tape;
    private final Told told;
    private final Reader reader;
    private final Pile now;
    private final Pile trial;
    private final History history;
    private final Pile[] boxes;
    private int filledBoxes;
    private final int[] lying;
    private int lyingCount;
    private final Orders orders;
    private final Contest contest;
    private final Tastings tastings;

    public SandwichTreaty() {
        tape = new Tape();
        told = new Told();
        reader = new Reader(tape);
        now = new Pile(told);
        trial = new Pile(told);
        history = new History(told);
        boxes = new Pile[BOX_LIMIT];
        for (int i = 0; i < BOX_LIMIT; i++) {
            boxes[i] = new Pile(told);
        }
        filledBoxes = 0;
        lying = new int[LAYER_LIMIT];
        lyingCount = 0;
        orders = new Orders(told);
        contest = new Contest(told, trial);
        tastings = new Tastings(trial);
    }

    // ---- the table

    public int feed(int a, int b, int c, int d, int e) {
        if (tape.count + FEED_BYTES > TEXT_LIMIT) {
            return NONE;
        }
        tape.put(a);
        tape.put(b);
        tape.put(c);
        tape.put(d);
        tape.put(e);
        return tape.count;
    }

    public int end(int n) {
        if (n < 0 || n > tape.count) {
            return NONE;
        }
        tape.count = n;
        return n;
    }

    public int table() {
        reader.readTape();
        tape.count = 0;
        if (reader.faultKind != 0) {
            return NONE;
        }
        told.copyFrom(reader.told);
        now.begin();
        history.restart(now);
        tastings.forget();
        lyingCount = 0;
        filledBoxes = 0;
        return told.layers;
    }

    public int fault(int what) {
        switch (what) {
            case 0: return reader.faultKind;
            case 1: return reader.faultPlace;
            default: return NONE;
        }
    }

    // ---- what is

    public int layer(int layer, int what) {
        if (!told.hasLayer(layer)) {
            return NO_SUCH_LAYER;
        }
        int place = now.placeOf(layer);
        switch (what) {
            case 0: return told.powerOf[layer];
            case 1: return told.thick[layer];
            case 2: return told.wet[layer];
            case 3: return place;
            case 4: return has(now.pinned, layer) ? 1 : 0;
            case 5: return place == NONE ? 0 : now.thickAbove(place);
            case 6: return place == NONE ? 0 : now.foesAt(place);
            default: return NO_SUCH_LAYER;
        }
    }

    public int slip(int layer) {
        int place = now.placeOf(layer);
        return place == NONE ? NO_SLIP : now.slipAt(place);
    }

    public int power(int power, int what) {
        if (!told.hasPower(power)) {
            return NONE;
        }
        int its = told.layersOf(power) & now.bits();
        switch (what) {
            case 0: return its;
            case 1: return told.thickOf(its);
            case 2: return neighboursOf(power);
            default: return NONE;
        }
    }

    private int neighboursOf(int power) {
        int found = 0;
        for (int place = 0; place < now.size; place++) {
            if (told.powerOf[now.order[place]] == power) {
                found |= now.powersFrom(place - 1, place + 2);
            }
        }
        return found & ~(1 << power);
    }

    public int at(int place) {
        return place >= 0 && place < now.size ? now.order[place] : NONE;
    }

    public int height() {
        return told.thickOf(now.bits());
    }

    public int greatest() {
        int best = NONE;
        int most = -1;
        for (int power = 0; power < told.powers; power++) {
            int thick = told.thickOf(told.layersOf(power) & now.bits());
            if (thick > most) {
                most = thick;
                best = power;
            }
        }
        return best;
    }

    public int absent() {
        return ((1 << told.powers) - 1) & ~now.powersFrom(0, now.size);
    }

    public int loosest() {
        int best = NONE;
        int most = 0;
        for (int layer = 0; layer < told.layers; layer++) {
            int place = now.placeOf(layer);
            if (place == NONE || has(now.pinned, layer)) {
                continue;
            }
            int slip = now.slipAt(place);
            if (best == NONE || slip > most) {
                most = slip;
                best = layer;
            }
        }
        return best;
    }

    // ---- acts

    public int day() {
        if (now.day >= DAY_LIMIT) {
            return NONE;
        }
        int gone = now.passBySeed();
        history.remember(now);
        return gone;
    }

    public int lay(int layer) {
        if (!told.hasLayer(layer) || now.placeOf(layer) != NONE) {
            return NONE;
        }
        now.putIn(layer, now.size);
        history.remember(now);
        return now.size - 1;
    }

    public int pull(int layer) {
        int place = now.placeOf(layer);
        if (place == NONE) {
            return NONE;
        }
        now.takeOut(1 << layer);
        history.remember(now);
        return place;
    }

    public int move(int layer, int place) {
        int from = now.placeOf(layer);
        if (from == NONE || from == place || place < 0 || place >= now.size) {
            return NONE;
        }
        now.shift(from, place);
        history.remember(now);
        return from;
    }

    public int pin(int layer) {
        if (now.placeOf(layer) == NONE || has(now.pinned, layer)) {
            return NONE;
        }
        now.pinned |= 1 << layer;
        history.remember(now);
        return Integer.bitCount(now.pinned);
    }

    public int unpin(int layer) {
        if (!told.hasLayer(layer) || !has(now.pinned, layer)) {
            return NONE;
        }
        now.pinned &= ~(1 << layer);
        history.remember(now);
        return Integer.bitCount(now.pinned);
    }

    public boolean undo() {
        return history.stepTo(now, -1);
    }

    public boolean redo() {
        return history.stepTo(now, 1);
    }

    public int image(int box) {
        if (box < 0 || box >= BOX_LIMIT) {
            return NONE;
        }
        boxes[box].copyFrom(now);
        filledBoxes |= 1 << box;
        return now.day;
    }

    public int back(int box) {
        if (box < 0 || box >= BOX_LIMIT || !has(filledBoxes, box)) {
            return NONE;
        }
        now.copyFrom(boxes[box]);
        history.restart(now);
        return now.day;
    }

    // ---- what lies ahead

    public int shaky() {
        return now.shakyBits();
    }

    public int stands(int n, int what) {
        if (n < 0 || n > OUTLOOK_LIMIT || what < 0 || what > 1) {
            return NONE;
        }
        trial.copyFrom(now);
        for (int i = 0; i < n; i++) {
            if (what == 1) {
                trial.passBySeed();
            } else {
                trial.passWithoutSun(told.damps);
            }
        }
        return trial.bits();
    }

    public int lasts(int layer) {
        if (!told.hasLayer(layer)) {
            return NONE;
        }
        trial.copyFrom(now);
        for (int days = 0; days <= OUTLOOK_LIMIT; days++) {
            if (trial.placeOf(layer) == NONE) {
                return days;
            }
            trial.passWithoutSun(told.damps);
        }
        return NONE;
    }

    public int holds() {
        trial.copyFrom(now);
        for (int days = 1; days <= OUTLOOK_LIMIT; days++) {
            if (trial.passWithoutSun(told.damps) != 0) {
                return days;
            }
        }
        return NONE;
    }

    public int damp(int n) {
        if (n < 0 || n > OUTLOOK_LIMIT) {
            return NONE;
        }
        trial.copyFrom(now);
        for (int i = 0; i < n; i++) {
            trial.weatherBySeed();
        }
        return trial.damp;
    }

    public int law(int n) {
        if (n < 0 || n > DAMP_LIMIT) {
            return NONE;
        }
        trial.copyFrom(now);
        trial.damp = n;
        return Integer.bitCount(trial.shakyBits());
    }

    public int soaks(int layer) {
        int place = now.placeOf(layer);
        if (place == NONE) {
            return NONE;
        }
        trial.copyFrom(now);
        for (int damp = 0; damp <= DAMP_LIMIT; damp++) {
            trial.damp = damp;
            if (trial.slipAt(place) > 0) {
                return damp;
            }
        }
        return NONE;
    }

    public int odds(int n, int part) {
        if (n < 0 || n > ODDS_LIMIT || part < 0 || part > 1) {
            return NONE;
        }
        int dry = SUN_PARTS - told.sun;
        int common = SUN_PARTS;
        while (common > 1 && (dry % common != 0 || SUN_PARTS % common != 0)) {
            common--;
        }
        // Terms without a common divisor have none when raised, so the powers are lowest already.
        int base = (part == 0 ? dry : SUN_PARTS) / common;
        int raised = 1;
        for (int i = 0; i < n; i++) {
            raised *= base;
        }
        return raised;
    }

    // ---- what would be best

    public int order() {
        trial.copyFrom(now);
        orders.arrange(trial);
        lyingCount = 0;
        for (int place = 0; place < trial.size; place++) {
            putDown(trial.order[place]);
        }
        return Integer.bitCount(trial.shakyBits());
    }

    public int stay(int what) {
        switch (what) {
            case 0: return Integer.bitCount(steadiestSet());
            case 1: return steadiestSet();
            default: return NONE;
        }
    }

    /** From the greatest set down, so that large sets come early and the least of like ones comes last. */
    private int steadiestSet() {
        int all = now.bits();
        int best = 0;
        for (int set = all; set > 0; set--) {
            if ((set & ~all) != 0 || isSmaller(set, best)) {
                continue;
            }
            trial.copyFrom(now);
            trial.takeOut(all & ~set);
            if (trial.shakyBits() == 0) {
                best = set;
            }
        }
        return best;
    }

    private boolean isSmaller(int set, int other) {
        int count = Integer.bitCount(set);
        int otherCount = Integer.bitCount(other);
        return count < otherCount || count == otherCount && told.thickOf(set) < told.thickOf(other);
    }

    public int pins(int n, int what) {
        if (n < 0 || n > PLAN_LIMIT || what < 0 || what > 1) {
            return NONE;
        }
        // When nobody comes OUT the STACK stays, so just those must be PINNED who slip in it on one of the days.
        trial.copyFrom(now);
        for (int i = 0; i < n; i++) {
            trial.pinned |= trial.shakyBits();
            trial.moisten(told.damps);
        }
        int more = trial.pinned & ~now.pinned;
        return what == 0 ? Integer.bitCount(more) : more;
    }

    public int picks() {
        int shaky = now.shakyBits();
        int free = 0;
        lyingCount = 0;
        for (int place = 0; place < now.size; place++) {
            if (place >= free && has(shaky, now.order[place])) {
                putDown(place);
                free = place + told.pick;
            }
        }
        return lyingCount;
    }

    public int cut(int what) {
        if (now.size < 2 || what < 0 || what > 1) {
            return NONE;
        }
        int all = told.thickOf(now.bits());
        int below = 0;
        int best = 0;
        int least = 0;
        for (int place = 1; place < now.size; place++) {
            below += told.thick[now.order[place - 1]];
            int apart = Math.abs(all - below - below);
            if (best == 0 || apart < least) {
                best = place;
                least = apart;
            }
        }
        return what == 0 ? best : least;
    }

    public int change(int n, int what) {
        if (n < 0 || n > PLAN_LIMIT || what < 0 || what > 2) {
            return NONE;
        }
        trial.copyFrom(now);
        int most = leftOfTrial(n, NONE);
        int first = NONE;
        int second = NONE;
        for (int one = 0; one < told.layers; one++) {
            for (int other = one + 1; other < told.layers && most < now.size; other++) {
                trial.copyFrom(now);
                if (!trial.exchange(one, other)) {
                    continue;
                }
                int left = leftOfTrial(n, most);
                if (left > most) {
                    most = left;
                    first = one;
                    second = other;
                }
            }
        }
        if (first == NONE) {
            return NONE;
        }
        return what == 0 ? first : what == 1 ? second : most;
    }

    /** How many are left behind n DAYS; it ends ahead of that where no more than enough are left. */
    private int leftOfTrial(int n, int enough) {
        for (int i = 0; i < n && trial.size > enough; i++) {
            trial.passWithoutSun(told.damps);
        }
        return trial.size;
    }

    public int pillars() {
        int shaky = now.shakyBits();
        int found = 0;
        for (int place = 0; place < now.size; place++) {
            int bit = 1 << now.order[place];
            trial.copyFrom(now);
            trial.takeOut(bit);
            if ((trial.shakyBits() & ~shaky) != 0) {
                found |= bit;
            }
        }
        return found;
    }

    public int between(int power, int other) {
        if (power == other || !told.hasPower(power) || !told.hasPower(other)) {
            return NONE;
        }
        int found = 0;
        for (int place = 0; place < now.size; place++) {
            int below = now.powersFrom(0, place);
            int above = now.powersFrom(place + 1, now.size);
            if (has(below, power) && has(above, other) || has(below, other) && has(above, power)) {
                found |= 1 << told.powerOf[now.order[place]];
            }
        }
        return found & ~(1 << power) & ~(1 << other);
    }

    public int wedged(int power) {
        if (!told.hasPower(power)) {
            return NONE;
        }
        int its = 1 << power;
        int found = 0;
        for (int place = 1; place < now.size - 1; place++) {
            boolean isBetween = now.powersFrom(place - 1, place) == its && now.powersFrom(place + 1, place + 2) == its;
            if (isBetween && told.powerOf[now.order[place]] != power) {
                found |= 1 << now.order[place];
            }
        }
        return found;
    }

    public int game(int power, int other, int n, int what) {
        boolean canBe = power != other && told.hasPower(power) && told.hasPower(other);
        if (!canBe || n < 1 || n > TURN_LIMIT || what < 0 || what > 1) {
            return NO_GAME;
        }
        int more = contest.play(now, power, other, n);
        return what == 0 ? more : contest.choice;
    }

    // ---- what lies there

    public int lies(int i) {
        return i >= 0 && i < lyingCount ? lying[i] : NONE;
    }

    private void putDown(int number) {
        if (lyingCount < LAYER_LIMIT) {
            lying[lyingCount] = number;
            lyingCount++;
        }
    }

    // ---- what was tasted

    public int tasted(int days, int layer, boolean is) {
        if (days < 0 || days > TASTED_DAYS || !told.hasLayer(layer)) {
            return NONE;
        }
        return tastings.tell(days, layer, is);
    }

    public boolean untell(int tasted) {
        return tastings.takeBack(tasted);
    }

    public int later(int by) {
        if (by < 0 || by > LATER_LIMIT || tastings.time + by > TIME_LIMIT) {
            return NONE;
        }
        tastings.time += by;
        return tastings.time;
    }

    public int fits(int k) {
        return Integer.bitCount(tastings.fitting(k));
    }

    public int sure(int what, int k) {
        if (what < 0 || what > 1) {
            return NONE;
        }
        int fitting = tastings.fitting(k);
        int found = NONE;
        for (int damps = 0; damps <= DAMPS_LIMIT; damps++) {
            if (has(fitting, damps) && (what == 1 || found == NONE)) {
                found = damps;
            }
        }
        return found;
    }

    public int ask(int days, int what, int k) {
        if (days < 0 || days > TASTED_DAYS || what < 0 || what > 1) {
            return NONE;
        }
        int fitting = tastings.fitting(k);
        int all = Integer.bitCount(fitting);
        if (all == 0) {
            return NONE;
        }
        int best = NONE;
        int least = NONE;
        for (int layer = 0; layer < told.layers; layer++) {
            int yes = Integer.bitCount(tastings.standing(fitting, days, layer));
            int left = Math.max(yes, all - yes);
            if (best == NONE || left < least) {
                best = layer;
                least = left;
            }
        }
        return what == 0 ? best : least;
    }

    public int about(int what) {
        switch (what) {
            case 0: return told.layers;
            case 1: return told.powers;
            case 2: return now.size;
            case 3: return now.pinned;
            case 4: return now.damp;
            case 5: return now.day;
            case 6: return now.seed;
            case 7: return history.cursor;
            case 8: return history.last - history.cursor;
            case 9: return tastings.count;
            case 10: return tastings.time;
            case 11: return tape.count;
            case 12: return told.formula.units;
            case 13: return lyingCount;
            case 14: return told.damps;
            case 15: return told.pick;
            default: return NONE;
        }
    }

    private static boolean has(int bits, int number) {
        return (bits >> number & 1) != 0;
    }

    /** The bytes that a next TABLE will be read from. */
    private static final class Tape {
        final byte[] bytes = new byte[TEXT_LIMIT];
        int count;

        void put(int number) {
            for (int shift = 24; shift >= 0 && count < TEXT_LIMIT; shift -= 8) {
                bytes[count] = (byte) (number >> shift);
                count++;
            }
        }
    }

    /** Parts the TAPE into TOKENS, one at a time, so that the first FAULT by its place is met first. */
    private static final class Scanner {
        private final Tape tape;
        private int next;
        int kind;
        int place;
        int value;
        /** The letters of a word, eight bits each: two words are the same when these are. */
        long name;

        Scanner(Tape tape) {
            this.tape = tape;
        }

        void start() {
            next = 0;
            kind = END;
            step();
        }

        /** From here on no TOKEN fits anything, so that the reader comes to its end by itself. */
        void halt() {
            kind = HALTED;
        }

        void step() {
            if (kind == HALTED) {
                return;
            }
            while (next < tape.count && isBlank(tape.bytes[next])) {
                next++;
            }
            place = next;
            if (next >= tape.count) {
                kind = END;
                return;
            }
            int sign = tape.bytes[next];
            if (isLetter(sign)) {
                passLetters();
                kind = next - place > WORD_LETTERS ? BROKEN : kindOfWord();
            } else if (isDigit(sign)) {
                passDigits();
                boolean letterBehind = next < tape.count && isLetter(tape.bytes[next]);
                kind = next - place > NUMBER_DIGITS || letterBehind ? BROKEN : NUMBER;
            } else {
                next++;
                kind = sign > 0 && SIGNS.indexOf((char) sign) >= 0 ? sign : BROKEN;
            }
        }

        private void passLetters() {
            name = 0;
            while (next < tape.count && isLetter(tape.bytes[next])) {
                name = name << 8 | tape.bytes[next];
                next++;
            }
        }

        private int kindOfWord() {
            int found = THICK;
            long word = 0;
            for (int i = 0; i < WORDS.length(); i++) {
                char letter = WORDS.charAt(i);
                if (letter != ' ') {
                    word = word << 8 | letter;
                } else if (word == name) {
                    return found;
                } else {
                    found++;
                    word = 0;
                }
            }
            return NAME;
        }

        private void passDigits() {
            value = 0;
            while (next < tape.count && isDigit(tape.bytes[next])) {
                value = value * 10 + tape.bytes[next] - '0';
                next++;
            }
        }

        private static boolean isBlank(int sign) {
            return sign == ' ' || sign == '\n';
        }

        private static boolean isLetter(int sign) {
            return sign >= 'a' && sign <= 'z';
        }

        private static boolean isDigit(int sign) {
            return sign >= '0' && sign <= '9';
        }
    }

    /** Reads the TAPE, line by line, into a TABLE of its own; the first FAULT ends it. */
    private static final class Reader {
        private final Scanner scanner;
        private final long[] powerNames = new long[POWER_LIMIT];
        private final long[] layerNames = new long[LAYER_LIMIT];
        private int seenLines;
        final Told told = new Told();
        int faultKind;
        int faultPlace;

        Reader(Tape tape) {
            scanner = new Scanner(tape);
            faultKind = 0;
            faultPlace = NONE;
        }

        void readTape() {
            faultKind = 0;
            faultPlace = NONE;
            seenLines = 0;
            told.clear();
            scanner.start();
            for (int i = 0; i < TEXT_LIMIT && scanner.kind != END && scanner.kind != HALTED; i++) {
                readLine();
            }
        }

        private void fail(int kind) {
            if (faultKind == 0) {
                faultKind = scanner.kind == BROKEN ? FAULT_TOKEN : kind;
                faultPlace = scanner.place;
                scanner.halt();
            }
        }

        private void expect(int kind) {
            if (scanner.kind == kind) {
                scanner.step();
            } else {
                fail(FAULT_STAND);
            }
        }

        private void readLine() {
            switch (scanner.kind) {
                case POWER: readPower(); break;
                case LAYER: readLayer(); break;
                case SLIPS: beginOnce(); told.formula.empty(); readChoice(0); break;
                case DAMPS: beginOnce(); told.damps = readNumber(0, DAMPS_LIMIT); break;
                case PICK: beginOnce(); told.pick = readNumber(1, PICK_LIMIT); break;
                case SUN: beginOnce(); told.sun = readNumber(0, SUN_PARTS); break;
                case DRAW: beginOnce(); told.draw = readNumber(0, SEED_PARTS - 1); break;
                default: fail(FAULT_STAND); break;
            }
            expect(';');
        }

        private void readPower() {
            if (told.powers >= POWER_LIMIT) {
                fail(FAULT_STAND);
                return;
            }
            scanner.step();
            powerNames[told.powers] = readNewName(powerNames, told.powers);
            told.powers++;
        }

        private void readLayer() {
            int layer = told.layers;
            if (layer >= LAYER_LIMIT) {
                fail(FAULT_STAND);
                return;
            }
            scanner.step();
            layerNames[layer] = readNewName(layerNames, layer);
            expect(OF);
            told.powerOf[layer] = readToldPower();
            expect(THICK);
            told.thick[layer] = readNumber(1, THICK_LIMIT);
            told.wet[layer] = 0;
            if (scanner.kind == WET) {
                scanner.step();
                told.wet[layer] = readNumber(0, WET_LIMIT);
            }
            told.layers++;
        }

        /** Behind a line's first word, which may stand once. */
        private void beginOnce() {
            int bit = 1 << scanner.kind - SLIPS;
            if ((seenLines & bit) != 0) {
                fail(FAULT_STAND);
            }
            seenLines |= bit;
            scanner.step();
        }

        private int readNumber(int least, int most) {
            int value = scanner.value;
            if (scanner.kind != NUMBER) {
                fail(FAULT_STAND);
                return least;
            }
            if (value < least || value > most) {
                fail(FAULT_NUMBER);
                return least;
            }
            scanner.step();
            return value;
        }

        private long readNewName(long[] names, int count) {
            long name = scanner.name;
            if (scanner.kind != NAME) {
                fail(FAULT_STAND);
            } else if (rankOf(name, names, count) != NONE) {
                fail(FAULT_TWICE);
            }
            scanner.step();
            return name;
        }

        private int readToldPower() {
            int power = rankOf(scanner.name, powerNames, told.powers);
            if (scanner.kind != NAME) {
                fail(FAULT_STAND);
            } else if (power == NONE) {
                fail(FAULT_NAME);
            }
            scanner.step();
            return power;
        }

        private static int rankOf(long name, long[] names, int count) {
            for (int i = 0; i < count && i < names.length; i++) {
                if (names[i] == name) {
                    return i;
                }
            }
            return NONE;
        }

        // ---- e, by its grammar; depth counts the units ( e ) and the ones behind not that stand around.

        private void readChoice(int depth) {
            readBoth(depth);
            for (int i = 0; i < TEXT_LIMIT && scanner.kind == OR; i++) {
                scanner.step();
                readBoth(depth);
                told.formula.add(-OR);
            }
        }

        private void readBoth(int depth) {
            readOne(depth);
            for (int i = 0; i < TEXT_LIMIT && scanner.kind == AND; i++) {
                scanner.step();
                readOne(depth);
                told.formula.add(-AND);
            }
        }

        private void readOne(int depth) {
            if (scanner.kind == NOT) {
                readNot(depth);
                return;
            }
            readSum(depth);
            int relation = scanner.kind;
            if (relation == '<' || relation == '>' || relation == '=') {
                scanner.step();
                readSum(depth);
                told.formula.add(-relation);
            }
        }

        private void readNot(int depth) {
            if (depth >= DEPTH_LIMIT) {
                fail(FAULT_STAND);
                return;
            }
            scanner.step();
            readOne(depth + 1);
            told.formula.add(-NOT);
        }

        private void readSum(int depth) {
            readTerm(depth);
            for (int i = 0; i < TEXT_LIMIT && (scanner.kind == '+' || scanner.kind == '-'); i++) {
                int sign = scanner.kind;
                scanner.step();
                readTerm(depth);
                told.formula.add(-sign);
            }
        }

        private void readTerm(int depth) {
            readUnit(depth);
            for (int i = 0; i < TEXT_LIMIT && isTermSign(scanner.kind); i++) {
                int sign = scanner.kind;
                scanner.step();
                readUnit(depth);
                told.formula.add(-sign);
            }
        }

        private static boolean isTermSign(int kind) {
            return kind == '*' || kind == '/' || kind == '%';
        }

        private void readUnit(int depth) {
            int kind = scanner.kind;
            boolean isFact = kind >= THICK && kind <= DAY;
            if (!isFact && kind != NUMBER && kind != '(' || told.formula.units >= UNIT_LIMIT) {
                fail(FAULT_STAND);
                return;
            }
            told.formula.units++;
            if (kind == '(') {
                readInner(depth);
                return;
            }
            told.formula.add(isFact ? -kind : scanner.value);
            scanner.step();
        }

        private void readInner(int depth) {
            if (depth >= DEPTH_LIMIT) {
                fail(FAULT_STAND);
                return;
            }
            scanner.step();
            readChoice(depth + 1);
            expect(')');
        }
    }

    /** What slips tells, with what is joined ahead of the sign that joins it. */
    private static final class Formula {
        // 30 units, 29 signs between them, and at most 7 nots ahead of each unit.
        private static final int CELL_LIMIT = UNIT_LIMIT * (DEPTH_LIMIT + 2);

        /** A number as it is, anything else as its kind below 0. */
        private final int[] cells = new int[CELL_LIMIT];
        private final int[] values = new int[UNIT_LIMIT];
        private int length;
        /** What thick, wet and the other words are worth, in the order of WORDS. */
        private final int[] facts = new int[FACTS];
        int units;

        void empty() {
            length = 0;
            units = 0;
        }

        void setUntold() {
            empty();
            add(-WET);
            add(-ABOVE);
            add(-'*');
            add(9);
            add(-'/');
            add(-DAMP);
            add(-'+');
            add(-THICK);
            add(-'-');
        }

        void add(int cell) {
            if (length < CELL_LIMIT) {
                cells[length] = cell;
                length++;
            }
        }

        void copyFrom(Formula other) {
            System.arraycopy(other.cells, 0, cells, 0, other.length);
            length = other.length;
            units = other.units;
        }

        int worth(int thick, int wet, int above, int below, int damp, int foes, int day) {
            facts[0] = thick;
            facts[WET - THICK] = wet;
            facts[ABOVE - THICK] = above;
            facts[BELOW - THICK] = below;
            facts[DAMP - THICK] = damp;
            facts[FOES - THICK] = foes;
            facts[DAY - THICK] = day;
            int depth = 0;
            for (int i = 0; i < length; i++) {
                int cell = cells[i];
                int kind = -cell;
                if (cell >= 0 || kind >= THICK && kind <= DAY) {
                    if (depth < UNIT_LIMIT) {
                        values[depth] = cell >= 0 ? cell : facts[kind - THICK];
                        depth++;
                    }
                } else if (kind == NOT && depth > 0) {
                    values[depth - 1] = values[depth - 1] == 0 ? 1 : 0;
                } else if (depth > 1) {
                    depth--;
                    values[depth - 1] = joined(kind, values[depth - 1], values[depth]);
                }
            }
            return values[0];
        }

        private static int joined(int kind, int left, int right) {
            switch (kind) {
                case '+': return left + right;
                case '-': return left - right;
                case '*': return left * right;
                case '/': return right == 0 ? 0 : left / right;
                case '%': return right == 0 ? 0 : left % right;
                case '<': return left < right ? 1 : 0;
                case '>': return left > right ? 1 : 0;
                case '=': return left == right ? 1 : 0;
                case AND: return left != 0 && right != 0 ? 1 : 0;
                default: return left != 0 || right != 0 ? 1 : 0;
            }
        }
    }

    /** A TABLE. */
    private static final class Told {
        int powers;
        int layers;
        final int[] powerOf = new int[LAYER_LIMIT];
        final int[] thick = new int[LAYER_LIMIT];
        final int[] wet = new int[LAYER_LIMIT];
        int damps;
        int pick;
        int sun;
        int draw;
        final Formula formula = new Formula();

        Told() {
            clear();
        }

        void clear() {
            powers = 0;
            layers = 0;
            damps = 1;
            pick = 3;
            sun = 0;
            draw = 0;
            formula.setUntold();
        }

        void copyFrom(Told other) {
            powers = other.powers;
            layers = other.layers;
            System.arraycopy(other.powerOf, 0, powerOf, 0, LAYER_LIMIT);
            System.arraycopy(other.thick, 0, thick, 0, LAYER_LIMIT);
            System.arraycopy(other.wet, 0, wet, 0, LAYER_LIMIT);
            damps = other.damps;
            pick = other.pick;
            sun = other.sun;
            draw = other.draw;
            formula.copyFrom(other.formula);
        }

        boolean hasLayer(int layer) {
            return layer >= 0 && layer < layers;
        }

        boolean hasPower(int power) {
            return power >= 0 && power < powers;
        }

        int layersOf(int power) {
            int bits = 0;
            for (int layer = 0; layer < layers; layer++) {
                if (powerOf[layer] == power) {
                    bits |= 1 << layer;
                }
            }
            return bits;
        }

        int thickOf(int bits) {
            int sum = 0;
            for (int layer = 0; layer < layers; layer++) {
                if (has(bits, layer)) {
                    sum += thick[layer];
                }
            }
            return sum;
        }
    }

    /** A STACK at a time: its order from below, who is PINNED, the DAMP, the day, the SEED. */
    private static final class Pile {
        private final Told told;
        final int[] order = new int[LAYER_LIMIT];
        int size;
        int pinned;
        int damp;
        int day;
        int seed;

        Pile(Told told) {
            this.told = told;
        }

        void begin() {
            size = told.layers;
            for (int place = 0; place < size; place++) {
                order[place] = place;
            }
            pinned = 0;
            damp = 0;
            day = 0;
            seed = told.draw;
        }

        void copyFrom(Pile other) {
            for (int place = 0; place < other.size; place++) {
                order[place] = other.order[place];
            }
            size = other.size;
            pinned = other.pinned;
            damp = other.damp;
            day = other.day;
            seed = other.seed;
        }

        int bits() {
            int bits = 0;
            for (int place = 0; place < size; place++) {
                bits |= 1 << order[place];
            }
            return bits;
        }

        int placeOf(int layer) {
            for (int place = 0; place < size; place++) {
                if (order[place] == layer) {
                    return place;
                }
            }
            return NONE;
        }

        /** The POWERS that have a place of these, the last not among them, as bits; what is no place is passed by. */
        int powersFrom(int first, int last) {
            int bits = 0;
            for (int place = Math.max(first, 0); place < last && place < size; place++) {
                bits |= 1 << told.powerOf[order[place]];
            }
            return bits;
        }

        int thickAbove(int place) {
            int sum = 0;
            for (int i = place + 1; i < size; i++) {
                sum += told.thick[order[i]];
            }
            return sum;
        }

        int foesAt(int place) {
            int power = told.powerOf[order[place]];
            int foes = 0;
            if (place > 0 && told.powerOf[order[place - 1]] != power) {
                foes++;
            }
            if (place + 1 < size && told.powerOf[order[place + 1]] != power) {
                foes++;
            }
            return foes;
        }

        int slipAt(int place) {
            int layer = order[place];
            int above = thickAbove(place);
            return told.formula.worth(told.thick[layer], told.wet[layer], above, place, damp, foesAt(place), day);
        }

        int shakyBits() {
            int bits = 0;
            for (int place = 0; place < size; place++) {
                int layer = order[place];
                if (!has(pinned, layer) && slipAt(place) > 0) {
                    bits |= 1 << layer;
                }
            }
            return bits;
        }

        void takeOut(int bits) {
            int left = 0;
            for (int place = 0; place < size; place++) {
                if (!has(bits, order[place])) {
                    order[left] = order[place];
                    left++;
                }
            }
            size = left;
            pinned &= ~bits;
        }

        void putIn(int layer, int place) {
            if (size >= LAYER_LIMIT) {
                return;
            }
            for (int i = size; i > place && i > 0; i--) {
                order[i] = order[i - 1];
            }
            order[place] = layer;
            size++;
        }

        void shift(int from, int to) {
            int layer = order[from];
            for (int i = from; i + 1 < size; i++) {
                order[i] = order[i + 1];
            }
            size--;
            putIn(layer, to);
        }

        boolean exchange(int layer, int other) {
            int place = placeOf(layer);
            int otherPlace = placeOf(other);
            if (place == NONE || otherPlace == NONE) {
                return false;
            }
            order[place] = other;
            order[otherPlace] = layer;
            return true;
        }

        int passBySeed() {
            int gone = shakyBits();
            takeOut(gone);
            weatherBySeed();
            return gone;
        }

        int passWithoutSun(int damps) {
            int gone = shakyBits();
            takeOut(gone);
            moisten(damps);
            return gone;
        }

        void weatherBySeed() {
            seed = (seed * 137 + 71) % SEED_PARTS;
            if (seed % SUN_PARTS < told.sun) {
                damp /= 2;
                day++;
            } else {
                moisten(told.damps);
            }
        }

        void moisten(int damps) {
            damp = Math.min(damp + damps, DAMP_LIMIT);
            day++;
        }
    }

    /** What was behind each ACT that is kept; states[cursor] is now, those behind it can be redone. */
    private static final class History {
        private final Pile[] states = new Pile[ACT_LIMIT + 1];
        int cursor;
        int last;

        History(Told told) {
            for (int i = 0; i < states.length; i++) {
                states[i] = new Pile(told);
            }
        }

        void restart(Pile now) {
            cursor = 0;
            last = 0;
            states[0].copyFrom(now);
        }

        void remember(Pile now) {
            if (cursor >= ACT_LIMIT) {
                forgetOldest();
            }
            cursor++;
            last = cursor;
            states[cursor].copyFrom(now);
        }

        private void forgetOldest() {
            Pile oldest = states[0];
            for (int i = 0; i < ACT_LIMIT; i++) {
                states[i] = states[i + 1];
            }
            states[ACT_LIMIT] = oldest;
            cursor--;
        }

        boolean stepTo(Pile now, int by) {
            int to = cursor + by;
            if (to < 0 || to > last) {
                return false;
            }
            cursor = to;
            now.copyFrom(states[to]);
            return true;
        }
    }

    /**
     * Finds ORDER. A LAYER slips by which LAYERS are below it, not by their order, and by its two neighbours;
     * so the best of all that is above depends on that set, the uppermost LAYER in it and whether that has a foe below.
     */
    private static final class Orders {
        /** More than all LAYERS can be thick together, so that one SHAKY less always wins. */
        private static final int SHAKY_COST = 1000;
        private static final int SETS = 1 << LAYER_LIMIT;

        private final Told told;
        private final int[] least = new int[SETS * LAYER_LIMIT * 2];
        /** Of the uppermost LAYER, by how many foes it has. */
        private final int[] costs = new int[3];
        private int total;

        Orders(Told told) {
            this.told = told;
        }

        void arrange(Pile pile) {
            int all = pile.bits();
            for (int set = SETS - 1; set > 0; set--) {
                if ((set & ~all) == 0) {
                    weighSet(pile, all, set);
                }
            }
            int set = 0;
            int top = NONE;
            int foeBelow = 0;
            for (int place = 0; place < pile.size; place++) {
                weighTop(pile, all, set, top);
                int next = bestNext(all, set, top, foeBelow);
                if (next == NONE) {
                    return;
                }
                foeBelow = foe(top, next);
                top = next;
                set |= 1 << next;
                pile.order[place] = next;
            }
        }

        private void weighSet(Pile pile, int all, int set) {
            for (int top = 0; top < told.layers; top++) {
                if (has(set, top)) {
                    weighTop(pile, all, set, top);
                    for (int foeBelow = 0; foeBelow < 2; foeBelow++) {
                        bestNext(all, set, top, foeBelow);
                        least[index(set, top, foeBelow)] = total;
                    }
                }
            }
        }

        private void weighTop(Pile pile, int all, int set, int top) {
            boolean canSlip = top != NONE && !has(pile.pinned, top);
            int thick = top == NONE ? 0 : told.thick[top];
            int wet = top == NONE ? 0 : told.wet[top];
            int above = told.thickOf(all & ~set);
            int below = Integer.bitCount(set) - 1;
            for (int foes = 0; foes < costs.length; foes++) {
                boolean slips = canSlip
                    && told.formula.worth(thick, wet, above, below, pile.damp, foes, pile.day) > 0;
                costs[foes] = slips ? SHAKY_COST : -thick;
            }
        }

        /** The least LAYER of those with which the total of the top and all above it is least. */
        private int bestNext(int all, int set, int top, int foeBelow) {
            int best = NONE;
            total = costs[foeBelow];
            for (int next = 0; next < told.layers; next++) {
                if (!has(all & ~set, next)) {
                    continue;
                }
                int foe = foe(top, next);
                int sum = costs[foeBelow + foe] + least[index(set | 1 << next, next, foe)];
                if (best == NONE || sum < total) {
                    best = next;
                    total = sum;
                }
            }
            return best;
        }

        private int foe(int layer, int other) {
            return layer == NONE || told.powerOf[layer] == told.powerOf[other] ? 0 : 1;
        }

        private static int index(int set, int top, int foeBelow) {
            return (set * LAYER_LIMIT + top) * 2 + foeBelow;
        }
    }

    /** GAME: what comes of it when each lays as well as can be. */
    private static final class Contest {
        /** More than any lead can be. */
        private static final int FAR = 1000;

        private final Told told;
        private final Pile pile;
        private int first;
        private int second;
        private int turns;
        int choice;

        Contest(Told told, Pile pile) {
            this.told = told;
            this.pile = pile;
        }

        int play(Pile now, int power, int other, int n) {
            pile.copyFrom(now);
            first = power;
            second = other;
            turns = Math.min(n, TURN_LIMIT);
            choice = NONE;
            return outcome(0, -FAR, FAR);
        }

        /** Turns beyond what the two have for sure elsewhere (least, most) are not looked at: they can't be chosen. */
        private int outcome(int turn, int least, int most) {
            if (turn >= turns) {
                return lead();
            }
            boolean isFirst = turn % 2 == 0;
            int own = told.layersOf(isFirst ? first : second) & ~pile.bits();
            int best = outcome(turn + 1, least, most);
            for (int layer = 0; layer < told.layers; layer++) {
                int floor = isFirst ? Math.max(least, best) : least;
                int ceiling = isFirst ? most : Math.min(most, best);
                if (!has(own, layer) || floor >= ceiling) {
                    continue;
                }
                pile.putIn(layer, pile.size);
                int value = outcome(turn + 1, floor, ceiling);
                pile.takeOut(1 << layer);
                if (isFirst ? value > best : value < best) {
                    best = value;
                    choice = turn == 0 ? layer : choice;
                }
            }
            return best;
        }

        private int lead() {
            int left = pile.bits() & ~pile.shakyBits();
            return told.thickOf(left & told.layersOf(first)) - told.thickOf(left & told.layersOf(second));
        }
    }

    /** What is TASTED, and by which damps it is so. */
    private static final class Tastings {
        private static final int NEVER = -1;
        private static final int STANDS_ROW = TASTED_DAYS + 1;
        /** The damps 0 .. 30 are 31 bits. */
        private static final int ALL_DAMPS = 0x7fffffff;

        private final Pile trial;
        private final int[] days = new int[TASTED_LIMIT];
        private final int[] layers = new int[TASTED_LIMIT];
        private final boolean[] is = new boolean[TASTED_LIMIT];
        private final int[] toldAt = new int[TASTED_LIMIT];
        private final int[] untoldAt = new int[TASTED_LIMIT];
        /** Who is in the STACK by damps, behind so many DAYS. */
        private final int[] stood = new int[(DAMPS_LIMIT + 1) * STANDS_ROW];
        private boolean isStoodKnown;
        int count;
        int time;

        Tastings(Pile trial) {
            this.trial = trial;
        }

        void forget() {
            count = 0;
            isStoodKnown = false;
        }

        int tell(int dayCount, int layer, boolean stands) {
            if (count >= TASTED_LIMIT) {
                return NONE;
            }
            days[count] = dayCount;
            layers[count] = layer;
            is[count] = stands;
            toldAt[count] = time;
            untoldAt[count] = NEVER;
            count++;
            return count - 1;
        }

        boolean takeBack(int number) {
            if (number < 0 || number >= count || untoldAt[number] != NEVER) {
                return false;
            }
            untoldAt[number] = time;
            return true;
        }

        /** FITS as known at k, as bits. */
        int fitting(int k) {
            learnWhoStood();
            int fitting = ALL_DAMPS;
            for (int i = 0; i < count; i++) {
                if (counts(i, k)) {
                    int yes = standing(fitting, days[i], layers[i]);
                    fitting = is[i] ? yes : fitting & ~yes;
                }
            }
            return fitting;
        }

        private boolean counts(int number, int k) {
            boolean isUntold = untoldAt[number] != NEVER && untoldAt[number] <= k;
            return toldAt[number] <= k && !isUntold;
        }

        /** Those of some damps that fit, as bits, by which the LAYER is in the STACK behind so many DAYS. */
        int standing(int some, int dayCount, int layer) {
            int found = 0;
            for (int damps = 0; damps <= DAMPS_LIMIT; damps++) {
                if (has(some, damps) && has(stood[damps * STANDS_ROW + dayCount], layer)) {
                    found |= 1 << damps;
                }
            }
            return found;
        }

        private void learnWhoStood() {
            if (isStoodKnown) {
                return;
            }
            for (int damps = 0; damps <= DAMPS_LIMIT; damps++) {
                trial.begin();
                for (int day = 0; day <= TASTED_DAYS; day++) {
                    stood[damps * STANDS_ROW + day] = trial.bits();
                    trial.passWithoutSun(damps);
                }
            }
            isStoodKnown = true;
        }
    }
}
