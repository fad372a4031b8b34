import java.util.ArrayList;
import java.util.List;

/** Texts of parts of tables, and tables with parts changed, drawn by a fixed rule, each against SlowReader. */
public final class ReaderTests {
    private static final int TEXTS = 40000;
    private static final String[] PARTS = {"power", "layer", "of", "thick", "wet", "slips", "damps", "pick", "sun", "draw", "or",
        "and", "not", "above", "below", "damp", "foes", "day", "a", "b", "c", "d", "abcdefgh", "abcdefghi", "0", "1", "8", "9",
        "20", "21", "30", "31", "100", "101", "999", "1000", "9999", "10000", "1a", ";", ";", ";", "(", ")", "<", ">", "=", "+", "-",
        "*", "/", "%", " ", "\n", "$", "A", "\t", "power a;", "power b;", "layer a of a thick 1;", "layer b of a thick 2 wet 3;",
        "slips ", "slips not (", "damps 3;"};

    private long state = 5;
    private int fine;
    private final int[] faults = new int[6];

    private ReaderTests() { }

    public static void main(String[] args) {
        ReaderTests tests = new ReaderTests();
        for (int i = 0; i < TEXTS && Check.count() < 20; i++) {
            tests.due(i % 4 == 0 ? tests.noise() : tests.changed(i % 4 == 1 ? 0 : 1 + tests.draw(2)));
        }
        Check.due("many are tables", true, tests.fine > TEXTS / 10);
        for (int kind = 1; kind < 6; kind++) {
            Check.due("many have the fault " + kind, true, tests.faults[kind] > TEXTS / 50);
        }
        Check.finish("ReaderTests");
    }

    private int draw(int bound) {
        state = state * 6364136223846793005L + 1442695040888963407L;
        return (int) ((state >>> 33) % bound);
    }

    private void due(String text) {
        SlowReader want = new SlowReader(text);
        SandwichTreaty x = new SandwichTreaty();
        int layers = Check.tell(x, text);
        Check.due("fault of " + text, want.fault, x.fault(0));
        Check.due("place in " + text, want.place, x.fault(1));
        Check.due("table of " + text, want.fault == 0 ? want.layers.size() : -1, layers);
        faults[want.fault]++;
        if (want.fault != 0) {
            Check.due("nothing is told by " + text, 0, x.about(0) + x.about(1) + x.about(12) + x.about(6));
            return;
        }
        fine++;
        Check.due("POWERS of " + text, want.powers.size(), x.about(1));
        Check.due("units of " + text, want.units, x.about(12));
        Check.due("damps of " + text, want.settings.getOrDefault("damps", 1), x.about(14));
        Check.due("pick of " + text, want.settings.getOrDefault("pick", 3), x.about(15));
        Check.due("draw of " + text, want.settings.getOrDefault("draw", 0), x.about(6));
        int sun = want.settings.getOrDefault("sun", 0);
        Check.due("sun of " + text, (100 - sun) * (long) x.odds(1, 1), 100L * x.odds(1, 0));
        for (int layer = 0; layer < layers; layer++) {
            for (int what = 0; what < 3; what++) {
                Check.due("layer(" + layer + ", " + what + ") of " + text, want.told.get(layer)[what], x.layer(layer, what));
            }
        }
    }

    private String noise() {
        StringBuilder text = new StringBuilder();
        int count = draw(14);
        for (int i = 0; i < count; i++) {
            text.append(PARTS[draw(PARTS.length)]).append(draw(3) == 0 ? "" : " ");
        }
        return text.toString();
    }

    // ---- tables, with some parts changed

    private final List<String> words = new ArrayList<>();

    private void add(String some) {
        for (String word : some.split(" ")) {
            words.add(word);
        }
    }

    private String changed(int changes) {
        words.clear();
        fill();
        for (int i = 0; i < changes; i++) {
            change(draw(words.size() + 1));
        }
        StringBuilder text = new StringBuilder();
        for (String word : words) {
            boolean apart = text.length() > 0 && Character.isLetterOrDigit(text.charAt(text.length() - 1))
                && !word.isEmpty() && Character.isLetterOrDigit(word.charAt(0));
            text.append(apart && draw(200) > 0 || draw(5) == 0 ? draw(4) == 0 ? "\n" : " " : "").append(word);
        }
        return text.length() > 1600 ? text.substring(0, 1600) : text.toString();
    }

    private void change(int at) {
        int how = draw(6);
        if (how < 2 || at >= words.size()) {
            words.add(at, PARTS[draw(PARTS.length)]);
        } else if (how == 2) {
            words.remove(at);
        } else if (how == 3) {
            words.set(at, words.get(draw(words.size())));
        } else if (how == 4) {
            words.subList(at, words.size()).clear();
        } else {
            words.set(at, PARTS[draw(PARTS.length)]);
        }
    }

    private void fill() {
        int powers = 1 + draw(draw(8) == 0 ? 5 : 4);
        for (int i = 0; i < powers; i++) {
            add("power " + "abcde".charAt(draw(40) == 0 ? draw(5) : i) + " ;");
        }
        int layers = draw(draw(8) == 0 ? 10 : 9);
        for (int i = 0; i < layers; i++) {
            add("layer " + "abcdefghi".charAt(draw(40) == 0 ? draw(9) : i) + " of " + "abcde".charAt(draw(powers)) + " thick " + near(1, 20));
            add(draw(2) == 0 ? ";" : "wet " + near(0, 20) + " ;");
        }
        for (String line : new String[] {"damps 0 30", "pick 1 8", "sun 0 100", "draw 0 999"}) {
            String[] parts = line.split(" ");
            if (draw(3) == 0) {
                add(parts[0] + " " + near(Integer.parseInt(parts[1]), Integer.parseInt(parts[2])) + " ;");
            }
        }
        if (draw(3) > 0) {
            add("slips");
            e(draw(draw(4) == 0 ? 30 : 8), 0);
            add(";");
        }
    }

    /** Mostly within the two; now and then one beyond them. */
    private int near(int least, int most) {
        return draw(60) == 0 ? most + 1 : draw(60) == 0 ? Math.max(0, least - 1) : least + draw(most - least + 1);
    }

    /** About as many units; as deep as may be, and now and then deeper. */
    private void e(int units, int depth) {
        while (draw(5) == 0 && depth < 8) {
            add("not");
            depth++;
        }
        one(units, depth);
        for (int left = units - 1; left > 0; left--) {
            add(new String[] {"+", "-", "*", "/", "%", "and", "or", "and not", "or 1 <"}[draw(9)]);
            one(left / 2, depth);
        }
    }

    private void one(int units, int depth) {
        if (depth < (draw(20) == 0 ? 8 : 7) && draw(3) == 0) {
            add("(");
            e(draw(units / 2 + 1), depth + 1);
            add(")");
        } else {
            add(draw(3) == 0 ? String.valueOf(draw(10000)) : PARTS[new int[] {3, 4, 13, 14, 15, 16, 17}[draw(7)]]);
        }
    }
}
