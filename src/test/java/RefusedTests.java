import java.util.ArrayList;
import java.util.List;

/**
 * A refused call changes nothing that a later call shows, and neither does one that only tells:
 * of two objects that lived the same, one is asked, then both must show the same.
 */
public final class RefusedTests {
    private interface Call {
        long on(SandwichTreaty x);
    }

    private interface Life {
        void live(SandwichTreaty x);
    }

    /** A call with its words, and whether its answer tells that it did nothing. */
    private static final class Asked {
        final String words;
        final Call call;
        /** What it answers when it is refused; of a call that only tells, each answer is fine. */
        final Long refusal;

        Asked(String words, Call call, Long refusal) {
            this.words = words;
            this.call = call;
            this.refusal = refusal;
        }
    }

    private static final int[] NUMBERS = {Integer.MIN_VALUE, -2, -1, 0, 1, 2, 3, 4, 5, 7, 8, 12, 13, 16, 20, 21, 29, 30, 31, 33, 60,
        61, 99, 100, 1000, 1001, 1599, 1600, 1601, Integer.MAX_VALUE};
    private static final int[] FEW = {-1, 0, 1, 2, 3, 4, 5, 8};

    private static final String FIVE = "power a;power b;power c;layer k of a thick 3 wet 2;layer l of b thick 2 wet 9;"
        + "layer m of c thick 4;layer n of a thick 1 wet 20;layer o of b thick 5;damps 2;sun 40;draw 21;pick 2;";

    private static final List<Asked> ALL = new ArrayList<>();

    private RefusedTests() { }

    public static void main(String[] args) {
        tellWhatIsAsked();
        Life[] lives = {RefusedTests::fresh, RefusedTests::told, RefusedTests::lived, RefusedTests::full, RefusedTests::empty};
        for (int i = 0; i < lives.length; i++) {
            int refused = 0;
            for (Asked asked : ALL) {
                refused += dueNothing("life " + i, lives[i], asked);
            }
            Check.due("some are refused in life " + i, true, refused > 100);
        }
        Check.finish("RefusedTests");
    }

    private static int dueNothing(String life, Life made, Asked asked) {
        SandwichTreaty x = new SandwichTreaty();
        made.live(x);
        long answer = asked.call.on(x);
        if (asked.refusal != null && answer != asked.refusal) {
            return 0;
        }
        SandwichTreaty y = new SandwichTreaty();
        made.live(y);
        String what = life + ", " + asked.words + " -> " + answer;
        Check.due(what + ": fault(0)", y.fault(0), x.fault(0));
        Check.due(what + ": fault(1)", y.fault(1), x.fault(1));
        Check.dueLike(what, x, y);
        // What is on the TAPE, by the fault that it has behind it.
        Check.due(what + ": the TAPE", y.table(), x.table());
        Check.due(what + ": the fault of the TAPE", y.fault(0) * 10000 + y.fault(1), x.fault(0) * 10000 + x.fault(1));
        return 1;
    }

    // ---- lives

    private static void fresh(SandwichTreaty x) {
        Check.due("new", 0, x.about(0));
    }

    private static void told(SandwichTreaty x) {
        Check.tell(x, FIVE);
        Check.put(x, "power a;power b;power");
    }

    private static void lived(SandwichTreaty x) {
        Check.tell(x, FIVE);
        x.later(3);
        x.tasted(2, 1, false);
        x.image(0);
        x.pin(1);
        x.pull(3);
        x.move(2, 0);
        x.later(2);
        x.tasted(5, 4, true);
        x.untell(0);
        x.day();
        x.image(2);
        x.pull(4);
        x.pin(2);
        x.undo();
        x.undo();
        x.order();
        Check.tell(x, "power a;power a;");
        Check.put(x, "damps 5; $");
    }

    /** Forty ACTS, thirty TASTED, all BOXES, the TIME at its end, the TAPE with its 1,600 bytes. */
    private static void full(SandwichTreaty x) {
        Check.tell(x, FIVE + "power d;layer p of d thick 1;layer q of d thick 2;layer r of a thick 20;");
        for (int i = 0; i < 100; i++) {
            x.later(1000);
        }
        for (int i = 0; i < 30; i++) {
            x.tasted(i % 13, i % 8, i % 3 > 0);
        }
        x.untell(4);
        for (int i = 0; i < 41; i++) {
            x.move(i % 8, (i * 3 + 1) % 8);
            x.pin(i % 5);
            x.image(i % 3);
        }
        x.undo();
        x.picks();
        for (int i = 0; i < 80; i++) {
            x.feed(0x20202020, 0x20202020, 0x20202020, 0x20202020, 0x20202020);
        }
    }

    private static void empty(SandwichTreaty x) {
        Check.tell(x, FIVE);
        for (int layer = 0; layer < 5; layer++) {
            x.pull(layer);
        }
    }

    // ---- calls

    private static void tells(String words, Call call) {
        ALL.add(new Asked(words, call, null));
    }

    private static void refuses(String words, long refusal, Call call) {
        ALL.add(new Asked(words, call, refusal));
    }

    private static void tellWhatIsAsked() {
        for (int n : NUMBERS) {
            ofOne(n);
            for (int what : FEW) {
                ofTwo(n, what);
            }
        }
        for (int what : FEW) {
            for (int n : NUMBERS) {
                tells("layer(" + what + ", " + n + ")", x -> x.layer(what, n));
                tells("power(" + what + ", " + n + ")", x -> x.power(what, n));
            }
        }
        refuses("feed(..)", -1, x -> x.feed(-1, -1, -1, -1, -1));
        refuses("day()", -1, x -> x.day());
        refuses("undo()", 0, x -> x.undo() ? 1 : 0);
        refuses("redo()", 0, x -> x.redo() ? 1 : 0);
        tells("shaky()", x -> x.shaky());
        tells("holds()", x -> x.holds());
        tells("pillars()", x -> x.pillars());
        tells("height()", x -> x.height());
        tells("greatest()", x -> x.greatest());
        tells("absent()", x -> x.absent());
        tells("loosest()", x -> x.loosest());
    }

    private static void ofOne(int n) {
        refuses("end(" + n + ")", -1, x -> x.end(n));
        refuses("lay(" + n + ")", -1, x -> x.lay(n));
        refuses("pull(" + n + ")", -1, x -> x.pull(n));
        refuses("pin(" + n + ")", -1, x -> x.pin(n));
        refuses("unpin(" + n + ")", -1, x -> x.unpin(n));
        refuses("untell(" + n + ")", 0, x -> x.untell(n) ? 1 : 0);
        refuses("later(" + n + ")", -1, x -> x.later(n));
        refuses("image(" + n + ")", -1, x -> x.image(n));
        refuses("back(" + n + ")", -1, x -> x.back(n));
        tells("fault(" + n + ")", x -> x.fault(n));
        tells("slip(" + n + ")", x -> x.slip(n));
        tells("at(" + n + ")", x -> x.at(n));
        tells("lasts(" + n + ")", x -> x.lasts(n));
        tells("stay(" + n + ")", x -> x.stay(n));
        tells("cut(" + n + ")", x -> x.cut(n));
        tells("wedged(" + n + ")", x -> x.wedged(n));
        tells("law(" + n + ")", x -> x.law(n));
        tells("soaks(" + n + ")", x -> x.soaks(n));
        tells("damp(" + n + ")", x -> x.damp(n));
        tells("lies(" + n + ")", x -> x.lies(n));
        tells("fits(" + n + ")", x -> x.fits(n));
        tells("about(" + n + ")", x -> x.about(n));
    }

    private static void ofTwo(int n, int what) {
        refuses("move(" + what + ", " + n + ")", -1, x -> x.move(what, n));
        refuses("tasted(" + n + ", " + what + ", true)", -1, x -> x.tasted(n, what, true));
        refuses("tasted(" + n + ", " + what + ", false)", -1, x -> x.tasted(n, what, false));
        tells("stands(" + n + ", " + what + ")", x -> x.stands(n, what));
        tells("pins(" + n + ", " + what + ")", x -> x.pins(n, what));
        tells("change(" + n + ", " + what + ")", x -> x.change(n, what));
        tells("between(" + n + ", " + what + ")", x -> x.between(n, what));
        tells("game(0, 1, " + n + ", " + what + ")", x -> x.game(0, 1, n, what));
        tells("game(" + what + ", " + n + ", 2, 0)", x -> x.game(what, n, 2, 0));
        tells("odds(" + n + ", " + what + ")", x -> x.odds(n, what));
        tells("sure(" + what + ", " + n + ")", x -> x.sure(what, n));
        tells("ask(" + n + ", " + what + ", 4)", x -> x.ask(n, what, 4));
    }
}
