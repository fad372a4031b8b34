import java.util.ArrayList;
import java.util.List;

/** All that calls can show of an object, told line by line; it ends with what changes the object. */
final class Look {
    private final SandwichTreaty x;
    private final List<String> lines = new ArrayList<>();

    private Look(SandwichTreaty x) {
        this.x = x;
    }

    static List<String> at(SandwichTreaty x) {
        Look look = new Look(x);
        look.numbers();
        look.stack();
        look.layers();
        look.powers();
        look.ahead();
        look.known();
        look.lying();
        look.plans();
        look.acts();
        look.boxes();
        look.tasted();
        return look.lines;
    }

    private void line(String call, long answer) {
        lines.add(call + " -> " + answer);
    }

    private void line(String call, boolean answer) {
        line(call, answer ? 1 : 0);
    }

    private void numbers() {
        for (int what = 0; what < 16; what++) {
            line("about(" + what + ")", x.about(what));
        }
    }

    private void stack() {
        for (int place = 0; place < 8; place++) {
            line("at(" + place + ")", x.at(place));
        }
        for (int what = 2; what < 9; what++) {
            line("about(" + what + ")", x.about(what));
        }
    }

    private void layers() {
        for (int layer = 0; layer < 8; layer++) {
            for (int what = 0; what < 7; what++) {
                line("layer(" + layer + ", " + what + ")", x.layer(layer, what));
            }
            line("slip(" + layer + ")", x.slip(layer));
            line("lasts(" + layer + ")", x.lasts(layer));
            line("soaks(" + layer + ")", x.soaks(layer));
        }
    }

    private void powers() {
        for (int power = 0; power < 4; power++) {
            for (int what = 0; what < 3; what++) {
                line("power(" + power + ", " + what + ")", x.power(power, what));
            }
            line("wedged(" + power + ")", x.wedged(power));
            line("between(" + power + ", 0)", x.between(power, 0));
        }
        line("game(0, 1, 2, 0)", x.game(0, 1, 2, 0));
        line("game(0, 1, 2, 1)", x.game(0, 1, 2, 1));
        line("height()", x.height());
        line("greatest()", x.greatest());
        line("absent()", x.absent());
    }

    private void ahead() {
        line("shaky()", x.shaky());
        line("stands(4, 0)", x.stands(4, 0));
        line("stands(4, 1)", x.stands(4, 1));
        line("holds()", x.holds());
        line("loosest()", x.loosest());
        line("law(3)", x.law(3));
        line("damp(7)", x.damp(7));
        line("odds(1, 0)", x.odds(1, 0));
        line("odds(1, 1)", x.odds(1, 1));
    }

    private void known() {
        int time = x.about(10);
        for (int k = time - 8; k <= time; k++) {
            line("fits(" + k + ")", x.fits(k));
            line("sure(0, " + k + ")", x.sure(0, k));
            line("sure(1, " + k + ")", x.sure(1, k));
            line("ask(3, 0, " + k + ")", x.ask(3, 0, k));
        }
    }

    private void lying() {
        for (int i = 0; i < 9; i++) {
            line("lies(" + i + ")", x.lies(i));
        }
    }

    private void plans() {
        line("stay(1)", x.stay(1));
        line("pins(5, 1)", x.pins(5, 1));
        line("cut(0)", x.cut(0));
        line("change(3, 0)", x.change(3, 0));
        line("pillars()", x.pillars());
        line("picks()", x.picks());
        lying();
        line("order()", x.order());
        lying();
    }

    private void acts() {
        for (int i = 0; i < 42 && x.about(7) > 0; i++) {
            line("undo()", x.undo());
            stack();
        }
        line("undo()", x.undo());
        for (int i = 0; i < 42 && x.about(8) > 0; i++) {
            line("redo()", x.redo());
            stack();
        }
        line("redo()", x.redo());
    }

    private void boxes() {
        for (int box = 0; box < 3; box++) {
            line("back(" + box + ")", x.back(box));
            stack();
        }
    }

    private void tasted() {
        line("later(1)", x.later(1));
        for (int number = 0; number < 31; number++) {
            line("untell(" + number + ")", x.untell(number));
            line("fits(100000)", x.fits(100000));
        }
        line("tasted(0, 0, true)", x.tasted(0, 0, true));
    }
}
