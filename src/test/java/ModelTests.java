import java.util.ArrayList;
import java.util.List;

/** Runs of calls drawn by a fixed rule, each answer against that of SlowModel. */
public final class ModelTests {
    private static final int RUNS = 1500;
    private static final int CALLS = 250;
    private static final int CALL_KINDS = 44;

    private long state;
    private final StringBuilder text = new StringBuilder();
    private int units;
    /** What most of the TASTED ones are told by, so that some damps fit. */
    private int hidden;

    private ModelTests(long seed) {
        state = seed * 0x9E3779B97F4A7C15L + 1;
    }

    public static void main(String[] args) {
        for (int run = 0; run < RUNS && Check.count() < 20; run++) {
            new ModelTests(run).run(run);
        }
        Check.finish("ModelTests");
    }

    private int draw(int bound) {
        state = state * 6364136223846793005L + 1442695040888963407L;
        return (int) ((state >>> 33) % bound);
    }

    private int either(int... some) {
        return some[draw(some.length)];
    }

    // ---- tables

    private void word(String word) {
        int end = text.length() - 1;
        boolean ends = end >= 0 && Character.isLetterOrDigit(text.charAt(end));
        if (ends && Character.isLetterOrDigit(word.charAt(0)) || draw(6) == 0) {
            text.append(draw(4) == 0 ? '\n' : ' ');
        }
        text.append(word);
    }

    private void words(String words) {
        for (String word : words.split(" ")) {
            word(word);
        }
    }

    private SlowModel.Part e(int depth) {
        SlowModel.Part part = both(depth);
        while (units < 24 && draw(6) == 0) {
            word("or");
            SlowModel.Part left = part;
            SlowModel.Part right = both(depth);
            part = facts -> left.worth(facts) != 0 | right.worth(facts) != 0 ? 1 : 0;
        }
        return part;
    }

    private SlowModel.Part both(int depth) {
        SlowModel.Part part = one(depth);
        while (units < 24 && draw(6) == 0) {
            word("and");
            SlowModel.Part left = part;
            SlowModel.Part right = one(depth);
            part = facts -> left.worth(facts) != 0 & right.worth(facts) != 0 ? 1 : 0;
        }
        return part;
    }

    private SlowModel.Part one(int depth) {
        if (depth < 7 && draw(7) == 0) {
            word("not");
            SlowModel.Part part = one(depth + 1);
            return facts -> part.worth(facts) == 0 ? 1 : 0;
        }
        SlowModel.Part left = sum(depth);
        if (units >= 24 || draw(3) != 0) {
            return left;
        }
        char sign = (char) either('<', '>', '=');
        word(String.valueOf(sign));
        SlowModel.Part right = sum(depth);
        return facts -> {
            int order = Integer.compare(left.worth(facts), right.worth(facts));
            return (sign == '<' ? order < 0 : sign == '>' ? order > 0 : order == 0) ? 1 : 0;
        };
    }

    private SlowModel.Part sum(int depth) {
        SlowModel.Part part = term(depth);
        while (units < 24 && draw(3) == 0) {
            char sign = (char) either('+', '-');
            word(String.valueOf(sign));
            SlowModel.Part left = part;
            SlowModel.Part right = term(depth);
            part = facts -> sign == '+' ? left.worth(facts) + right.worth(facts) : left.worth(facts) - right.worth(facts);
        }
        return part;
    }

    private SlowModel.Part term(int depth) {
        SlowModel.Part part = unit(depth);
        while (units < 24 && draw(4) == 0) {
            char sign = (char) either('*', '/', '%');
            word(String.valueOf(sign));
            SlowModel.Part left = part;
            SlowModel.Part right = unit(depth);
            part = facts -> {
                int a = left.worth(facts);
                int b = right.worth(facts);
                return sign == '*' ? a * b : b == 0 ? 0 : sign == '/' ? a / b : a % b;
            };
        }
        return part;
    }

    private SlowModel.Part unit(int depth) {
        units++;
        if (depth < 7 && units < 20 && draw(6) == 0) {
            word("(");
            SlowModel.Part part = e(depth + 1);
            word(")");
            return part;
        }
        int fact = draw(10);
        if (fact < 7) {
            word(new String[] {"thick", "wet", "above", "below", "damp", "foes", "day"}[fact]);
            return facts -> facts[fact];
        }
        int number = either(draw(4), draw(20), draw(20), draw(100), draw(10000));
        word(String.valueOf(number));
        return facts -> number;
    }

    private void tellTable(SlowModel model, int most) {
        text.setLength(0);
        units = 0;
        int layers = draw(most + 1);
        model.powers = layers == 0 ? draw(5) : 1 + draw(4);
        model.powerOf = new int[layers];
        model.thick = new int[layers];
        model.wet = new int[layers];
        model.slips = new SlowModel().slips;
        model.damps = 1;
        model.pick = 3;
        model.sun = 0;
        model.draw = 0;
        tellSettings(model);
        for (int power = 0; power < model.powers; power++) {
            words("power p" + "abcd".charAt(power) + " ;");
        }
        for (int layer = 0; layer < layers; layer++) {
            model.powerOf[layer] = draw(model.powers);
            model.thick[layer] = 1 + draw(either(3, 8, 20));
            words("layer p" + "abcdefgh".charAt(layer) + " of p" + "abcd".charAt(model.powerOf[layer]) + " thick "
                + model.thick[layer]);
            if (draw(3) > 0) {
                model.wet[layer] = draw(21);
                words("wet " + model.wet[layer]);
            }
            word(";");
        }
        hidden = draw(either(4, 31));
        model.units = units;
        model.begin();
    }

    private void tellSettings(SlowModel model) {
        if (draw(3) > 0) {
            model.damps = draw(either(4, 31));
            words("damps " + model.damps + " ;");
        }
        if (draw(3) > 0) {
            model.sun = draw(101);
            words("sun " + model.sun + " ;");
        }
        if (draw(3) > 0) {
            model.draw = draw(1000);
            words("draw " + model.draw + " ;");
        }
        int form = draw(8);
        if (form < 4) {
            word("slips");
            model.slips = e(0);
            word(";");
        } else if (form < 7) {
            tellOrdinarySlips(model);
        }
        if (draw(3) > 0) {
            model.pick = 1 + draw(8);
            words("pick " + model.pick + " ;");
        }
    }

    /** What is drawn freely is often the same for all, so that little would hang on the order. */
    private void tellOrdinarySlips(SlowModel model) {
        int part = 1 + draw(30);
        int each = draw(5);
        int lower = draw(4);
        words("slips wet * above / " + part + " + damp + foes * " + each + " - thick - below * " + lower + " ;");
        units += 9;
        model.slips = facts -> facts[1] * facts[2] / part + facts[4] + facts[5] * each - facts[0] - facts[3] * lower;
    }

    // ---- runs

    private void run(int run) {
        SandwichTreaty x = new SandwichTreaty();
        SlowModel model = new SlowModel();
        List<String> calls = new ArrayList<>();
        // The slow model tries all orders, so the tallest stacks come but in some runs.
        int most = run % 20 == 0 ? 8 : run % 3 == 0 ? 7 : 5;
        int ahead = Check.count();
        for (int i = 0; i < CALLS; i++) {
            if (i % 120 == 0) {
                tellTable(model, most);
                Check.due("run " + run + ", table of " + text, model.thick.length, Check.tell(x, text.toString()));
                calls.clear();
            }
            int kind = draw(CALL_KINDS);
            if (kind == 18 && most == 8 && draw(8) != 0) {
                kind = 0;
            }
            call(x, model, kind, calls, "run " + run);
            if (Check.count() != ahead) {
                System.out.println("table: " + text + "\ncalls: " + calls);
                return;
            }
        }
    }

    private void call(SandwichTreaty x, SlowModel m, int kind, List<String> calls, String run) {
        int layer = mostlyBelow(m.thick.length);
        int power = mostlyBelow(m.powers);
        int other = mostlyBelow(m.powers);
        int n = either(draw(5), draw(5), draw(22), draw(64)) - (draw(12) == 0 ? 3 : 0);
        if (kind == 25 || kind == 26 || kind == 35 || kind == 40) {
            n = draw(8) == 0 ? n : kind < 30 ? 1 + draw(4) : draw(13);
        }
        int what = draw(8) == 0 ? draw(10) - 2 : draw(2);
        int k = m.time + draw(9) - 5;
        String told = kind + "(layer " + layer + ", power " + power + ", other " + other + ", n " + n + ", what " + what
            + ", k " + k + ")";
        calls.add(told);
        String label = run + ", " + told;
        if (kind == 35 && draw(4) > 0) {
            what = m.stood(hidden, Math.max(0, Math.min(n, 12)), layer) ? 0 : 1;
        }
        if (kind < 22) {
            Check.due(label, asked(m, kind, layer, n, what), asked(x, kind, layer, n, what));
        } else {
            Check.due(label, more(m, kind, layer, power, other, n, what, k), more(x, kind, layer, power, other, n, what, k));
        }
        for (int i = 0; i < 16; i++) {
            Check.due(label + ", about(" + i + ")", m.about(i), x.about(i));
        }
        for (int i = -1; i < 9; i++) {
            Check.due(label + ", at(" + i + ")", m.at(i), x.at(i));
            Check.due(label + ", lies(" + i + ")", m.lies(i), x.lies(i));
        }
    }

    /** A number from 0 up to below the bound; now and then another one. */
    private int mostlyBelow(int bound) {
        return bound == 0 || draw(12) == 0 ? draw(11) - 1 : draw(bound);
    }

    private static int one(boolean is) {
        return is ? 1 : 0;
    }

    private static int asked(SandwichTreaty x, int kind, int layer, int n, int what) {
        switch (kind) {
            case 0: return x.layer(layer, n);
            case 1: return x.slip(layer);
            case 2: return x.day();
            case 3: case 4: return x.lay(layer);
            case 5: return x.pull(layer);
            case 6: return x.move(layer, n);
            case 7: return x.pin(layer);
            case 8: return x.unpin(layer);
            case 9: return one(x.undo());
            case 10: return one(x.redo());
            case 11: return x.shaky();
            case 12: case 13: return x.stands(n, what);
            case 14: return x.lasts(layer);
            case 15: return x.holds();
            case 16: return x.stay(what);
            case 17: return x.pins(n, what);
            case 18: return x.order();
            case 19: return x.picks();
            case 20: return x.cut(what);
            default: return x.change(n, what);
        }
    }

    private static int asked(SlowModel x, int kind, int layer, int n, int what) {
        switch (kind) {
            case 0: return x.layer(layer, n);
            case 1: return x.slip(layer);
            case 2: return x.day();
            case 3: case 4: return x.lay(layer);
            case 5: return x.pull(layer);
            case 6: return x.move(layer, n);
            case 7: return x.pin(layer, true);
            case 8: return x.pin(layer, false);
            case 9: return one(x.undo());
            case 10: return one(x.redo());
            case 11: return x.shaky();
            case 12: case 13: return x.stands(n, what);
            case 14: return x.lasts(layer);
            case 15: return x.holds();
            case 16: return x.stay(what);
            case 17: return x.pins(n, what);
            case 18: return x.order();
            case 19: return x.picks();
            case 20: return x.cut(what);
            default: return x.change(n, what);
        }
    }

    private static int more(SandwichTreaty x, int kind, int layer, int power, int other, int n, int what, int k) {
        switch (kind) {
            case 22: return x.pillars();
            case 23: return x.between(power, other);
            case 24: return x.wedged(power);
            case 25: case 26: return x.game(power, other, n, what);
            case 27: return x.height();
            case 28: return x.greatest();
            case 29: return x.absent();
            case 30: return x.loosest();
            case 31: return x.law(n);
            case 32: return x.soaks(layer);
            case 33: return x.damp(n);
            case 34: return x.odds(n, what);
            case 35: return x.tasted(n, layer, what == 0);
            case 36: return one(x.untell(n));
            case 37: return x.later(n);
            case 38: return x.fits(k);
            case 39: return x.sure(what, k);
            case 40: return x.ask(n, what, k);
            case 41: return x.image(n);
            case 42: return x.back(n);
            default: return x.power(power, what + n % 2);
        }
    }

    private static int more(SlowModel x, int kind, int layer, int power, int other, int n, int what, int k) {
        switch (kind) {
            case 22: return x.pillars();
            case 23: return x.between(power, other);
            case 24: return x.wedged(power);
            case 25: case 26: return x.game(power, other, n, what);
            case 27: return x.height();
            case 28: return x.greatest();
            case 29: return x.absent();
            case 30: return x.loosest();
            case 31: return x.law(n);
            case 32: return x.soaks(layer);
            case 33: return x.damp(n);
            case 34: return x.odds(n, what);
            case 35: return x.tasted(n, layer, what == 0);
            case 36: return one(x.untell(n));
            case 37: return x.later(n);
            case 38: return x.fits(k);
            case 39: return x.sure(what, k);
            case 40: return x.ask(n, what, k);
            case 41: return x.image(n);
            case 42: return x.back(n);
            default: return x.power(power, what + n % 2);
        }
    }
}
