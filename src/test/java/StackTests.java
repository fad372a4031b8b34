/** Promises 6 to 17, 32 to 35 and 47 to 49: what is, acts, undone and redone, images. */
public final class StackTests {
    private StackTests() { }

    /** Places from below: rye(0) of east, ham(1) of mid, mus(2) of west, wit(3) of west, but(4) of east. */
    private static final String LUNCH = "power east;power west;power mid;layer rye of east thick 5;"
        + "layer ham of mid thick 3 wet 4;layer mus of west thick 1 wet 6;layer wit of west thick 5;"
        + "layer but of east thick 2 wet 1;damps 2;pick 2;sun 30;draw 9;";

    public static void main(String[] args) {
        layer();
        slip();
        slipWords();
        slipWorth();
        power();
        at();
        day();
        daysAtTheirEnd();
        layAndPull();
        move();
        pinAndUnpin();
        undoAndRedo();
        undoLimit();
        redoEnds();
        heightAndGreatest();
        absentAndLoosest();
        images();
        about();
        Check.finish("StackTests");
    }

    private static void layer() {
        SandwichTreaty x = Check.told(LUNCH);
        int[][] want = {{0, 5, 0, 0, 0, 11, 1}, {2, 3, 4, 1, 0, 8, 2}, {1, 1, 6, 2, 0, 7, 1}, {1, 5, 0, 3, 0, 2, 1},
            {0, 2, 1, 4, 0, 0, 1}};
        for (int layer = 0; layer < 5; layer++) {
            for (int what = 0; what < 7; what++) {
                Check.due("layer(" + layer + ", " + what + ")", want[layer][what], x.layer(layer, what));
            }
            Check.due("layer(.., 7)", -2, x.layer(layer, 7));
            Check.due("layer(.., -1)", -2, x.layer(layer, -1));
        }
        for (int layer : new int[] {-1, 5, 8, 32, Integer.MIN_VALUE, Integer.MAX_VALUE}) {
            for (int what = -1; what < 8; what++) {
                Check.due("layer of none such", -2, x.layer(layer, what));
            }
        }
        x.pin(1);
        Check.due("pinned", 1, x.layer(1, 4));
        x.pull(1);
        int[] out = {2, 3, 4, -1, 0, 0, 0};
        for (int what = 0; what < 7; what++) {
            Check.due("layer(1, " + what + ") when OUT", out[what], x.layer(1, what));
        }
        Check.due("foes behind a pull", 1, x.layer(0, 6));
        Check.due("above behind a pull", 8, x.layer(0, 5));
    }

    private static void slip() {
        SandwichTreaty x = Check.told(LUNCH);
        int[] want = {-5, 0, 3, -5, -2};
        for (int layer = 0; layer < 5; layer++) {
            Check.due("slip(" + layer + ")", want[layer], x.slip(layer));
        }
        for (int layer : new int[] {-1, 5, Integer.MIN_VALUE, Integer.MAX_VALUE}) {
            Check.due("slip of none such", -1000000000, x.slip(layer));
        }
        x.pin(2);
        Check.due("slip when PINNED", 3, x.slip(2));
        x.pull(2);
        Check.due("slip when OUT", -1000000000, x.slip(2));
    }

    private static int worth(String e) {
        SandwichTreaty x = Check.told("power a;power b;layer l of a thick 3 wet 4;layer m of b thick 5;"
            + "layer n of a thick 7 wet 9;layer o of a thick 11;slips " + e + ";damps 6;");
        x.pin(0);
        x.pin(1);
        x.pin(2);
        x.pin(3);
        x.day();
        x.day();
        return x.slip(2);
    }

    private static void slipWords() {
        Check.due("thick", 7, worth("thick"));
        Check.due("wet", 9, worth("wet"));
        Check.due("above", 11, worth("above"));
        Check.due("below", 2, worth("below"));
        Check.due("damp", 12, worth("damp"));
        Check.due("foes", 1, worth("foes"));
        Check.due("day", 2, worth("day"));
        Check.due("a number", 9999, worth("9999"));
        Check.due("all", 7 + 9 * 11 - 2 + 12 * 1 + 2, worth("thick + wet * above - below + damp * foes + day"));
    }

    private static void slipWorth() {
        Check.due("from the left -", -4, worth("1 - 2 - 3"));
        Check.due("from the left /", 2, worth("100 / 10 / 5"));
        Check.due("from the left %*", 6, worth("17 % 5 * 3"));
        Check.due("* ahead of +", 7, worth("1 + 2 * 3"));
        Check.due("( e )", 9, worth("(1 + 2) * 3"));
        Check.due("/ cut below 0", -3, worth("(0 - 7) / 2"));
        Check.due("% below 0", -1, worth("(0 - 7) % 2"));
        Check.due("% by below 0", 1, worth("7 % (0 - 2)"));
        Check.due("/ by 0", 0, worth("7 / 0"));
        Check.due("% by 0", 0, worth("7 % 0"));
        Check.due("/ by what is 0", 1, worth("1 + 5 / (thick - 7)"));
        Check.due("wrapping", 9999 * 9999 * 9999, worth("9999 * 9999 * 9999"));
        Check.due("the least by -1", Integer.MIN_VALUE, worth("(1024*1024*1024*2) / (0 - 1)"));
        Check.due("the rest of the least by -1", 0, worth("(1024*1024*1024*2) % (0 - 1)"));
        Check.due("<", 1, worth("1 < 2"));
        Check.due("< of like ones", 0, worth("2 < 2"));
        Check.due(">", 1, worth("2 > 1"));
        Check.due("> of like ones", 0, worth("2 > 2"));
        Check.due("=", 1, worth("2 = 2"));
        Check.due("= of others", 0, worth("2 = 3"));
        Check.due("relation of sums", 1, worth("1 + 1 < 1 * 3"));
        Check.due("and", 1, worth("2 and 4"));
        Check.due("and of 0", 0, worth("2 and 0"));
        Check.due("or", 1, worth("0 or 4"));
        Check.due("or of 0", 0, worth("0 or 0"));
        Check.due("or of below 0", 1, worth("0 or 0 - 1"));
        Check.due("not of 0", 1, worth("not 0"));
        Check.due("not of 5", 0, worth("not 5"));
        Check.due("not not", 1, worth("not not 5"));
        Check.due("not of a relation", 0, worth("not 1 < 2"));
        Check.due("not binds more than and", 0, worth("not 1 and 0"));
        Check.due("not binds more than or", 1, worth("not 1 or 1"));
        Check.due("and ahead of or", 1, worth("1 or 0 and 0"));
        Check.due("one alone is as it is", 5, worth("(((5)))"));
        Check.due("relation as a number", 3, worth("(1 < 2) + (2 > 1) + (3 = 3)"));
        Check.due("three ands", 1, worth("1 and 2 and 3"));
        Check.due("three ors", 1, worth("0 or 0 or 3"));
    }

    private static void power() {
        SandwichTreaty x = Check.told(LUNCH);
        int[][] want = {{17, 7, 6}, {12, 6, 5}, {2, 3, 3}};
        for (int power = 0; power < 3; power++) {
            for (int what = 0; what < 3; what++) {
                Check.due("power(" + power + ", " + what + ")", want[power][what], x.power(power, what));
            }
            Check.due("power(.., 3)", -1, x.power(power, 3));
            Check.due("power(.., -1)", -1, x.power(power, -1));
        }
        for (int power : new int[] {-1, 3, 4, Integer.MIN_VALUE, Integer.MAX_VALUE}) {
            Check.due("power of none such", -1, x.power(power, 0));
        }
        x.pull(1);
        Check.due("power(2, 0) when OUT", 0, x.power(2, 0));
        Check.due("power(2, 1) when OUT", 0, x.power(2, 1));
        Check.due("power(2, 2) when OUT", 0, x.power(2, 2));
        Check.due("power(0, 2) behind a pull", 2, x.power(0, 2));
    }

    private static void at() {
        SandwichTreaty x = Check.told(LUNCH);
        Check.dueStack("as told", x, 0, 1, 2, 3, 4);
        Check.due("at(MIN)", -1, x.at(Integer.MIN_VALUE));
        Check.due("at(MAX)", -1, x.at(Integer.MAX_VALUE));
    }

    private static void day() {
        SandwichTreaty x = Check.told(LUNCH);
        Check.due("day 1", 4, x.day());
        Check.due("SEED", 304, x.about(6));
        Check.due("SUN: DAMP", 0, x.about(4));
        Check.due("day", 1, x.about(5));
        Check.dueStack("behind day 1", x, 0, 1, 3, 4);
        Check.due("day 2", 0, x.day());
        Check.due("SEED 2", 719, x.about(6));
        Check.due("SUN 2: DAMP", 0, x.about(4));
        Check.due("day 3", 0, x.day());
        Check.due("SEED 3", 574, x.about(6));
        Check.due("no SUN 3: DAMP", 2, x.about(4));
        // All by what is so ahead: each stands by the other one, and both come OUT.
        SandwichTreaty y = Check.told("power a;power b;layer l of a thick 1;layer m of b thick 1;slips foes;");
        Check.due("both at once", 3, y.day());
        Check.due("the DAMP without SUN", 1, y.about(4));
        // PINNED ones stay, and one that comes OUT is not PINNED when it is laid on again.
        SandwichTreaty z = Check.told("power a;layer l of a thick 1;layer m of a thick 1;slips 1;");
        z.pin(0);
        Check.due("a PINNED one stays", 2, z.day());
        Check.due("who is PINNED", 1, z.about(3));
        z.lay(1);
        Check.due("laid on is not PINNED", 0, z.layer(1, 4));
        Check.due("and comes OUT again", 2, z.day());
        // SUN by the rest by 100 less than what sun tells: half, cut.
        SandwichTreaty s = Check.told("damps 7;sun 72;draw 0;");
        s.day();
        Check.due("SEED 71 is below 72", 0, s.about(4));
        SandwichTreaty t = Check.told("damps 7;sun 71;draw 0;");
        t.day();
        Check.due("SEED 71 is not below 71", 7, t.about(4));
        t.day();
        Check.due("SEED 798", 798, t.about(6));
        Check.due("DAMP behind 798", 14, t.about(4));
        t.day();
        Check.due("SEED 397", 397, t.about(6));
        Check.due("DAMP behind 397", 21, t.about(4));
        t.day();
        Check.due("SEED 460", 460, t.about(6));
        Check.due("half, cut", 10, t.about(4));
        SandwichTreaty m = Check.told("damps 30;");
        int[] damp = {30, 60, 90, 99, 99};
        for (int want : damp) {
            m.day();
            Check.due("DAMP at most 99", want, m.about(4));
        }
    }

    private static void daysAtTheirEnd() {
        // The limit lies beyond the 512 calls that are promised; it is kept to all the same.
        SandwichTreaty x = Check.told("damps 1;");
        for (int i = 1; i <= 999; i++) {
            Check.due("a day", 0, x.day());
        }
        Check.due("a day behind 999", -1, x.day());
        Check.due("the day", 999, x.about(5));
        Check.due("ahead goes on", 99, x.damp(3));
        x.undo();
        Check.due("a day again", 0, x.day());
    }

    private static void layAndPull() {
        SandwichTreaty x = Check.told(LUNCH);
        Check.due("lay one in the STACK", -1, x.lay(0));
        for (int layer : new int[] {-1, 5, 8, Integer.MIN_VALUE, Integer.MAX_VALUE}) {
            Check.due("lay none such", -1, x.lay(layer));
            Check.due("pull none such", -1, x.pull(layer));
        }
        Check.due("no ACTS", 0, x.about(7));
        Check.due("pull(1)", 1, x.pull(1));
        Check.due("pull(4)", 3, x.pull(4));
        Check.due("pull(4) when OUT", -1, x.pull(4));
        Check.dueStack("pulled", x, 0, 2, 3);
        Check.due("lay(4)", 3, x.lay(4));
        Check.due("lay(1)", 4, x.lay(1));
        Check.dueStack("laid", x, 0, 2, 3, 4, 1);
        Check.due("four ACTS", 4, x.about(7));
        x.pin(3);
        x.pull(3);
        Check.due("who is OUT is not PINNED", 0, x.about(3));
        x.lay(3);
        Check.due("nor when laid on again", 0, x.about(3));
    }

    private static void move() {
        SandwichTreaty x = Check.told(LUNCH);
        Check.due("move up", 1, x.move(1, 3));
        Check.dueStack("moved up", x, 0, 2, 3, 1, 4);
        Check.due("move down", 4, x.move(4, 0));
        Check.dueStack("moved down", x, 4, 0, 2, 3, 1);
        Check.due("move to the top", 0, x.move(4, 4));
        Check.dueStack("moved to the top", x, 0, 2, 3, 1, 4);
        Check.due("there already", -1, x.move(4, 4));
        for (int place : new int[] {-1, 5, 8, Integer.MIN_VALUE, Integer.MAX_VALUE}) {
            Check.due("no such place", -1, x.move(0, place));
            Check.due("no such LAYER", -1, x.move(place, 0));
        }
        x.pin(0);
        Check.due("move a PINNED one", 0, x.move(0, 2));
        Check.due("it stays PINNED", 1, x.about(3));
        x.pull(3);
        Check.due("move one that is OUT", -1, x.move(3, 0));
        Check.due("a place beyond the top", -1, x.move(0, 4));
        Check.due("ACTS", 6, x.about(7));
    }

    private static void pinAndUnpin() {
        SandwichTreaty x = Check.told(LUNCH);
        Check.due("unpin none", -1, x.unpin(0));
        Check.due("pin(0)", 1, x.pin(0));
        Check.due("pin(3)", 2, x.pin(3));
        Check.due("pin(3) again", -1, x.pin(3));
        Check.due("who", 9, x.about(3));
        Check.due("unpin(0)", 1, x.unpin(0));
        Check.due("unpin(0) again", -1, x.unpin(0));
        for (int layer : new int[] {-1, 5, 32, 35, Integer.MIN_VALUE, Integer.MAX_VALUE}) {
            Check.due("pin none such", -1, x.pin(layer));
            Check.due("unpin none such", -1, x.unpin(layer));
        }
        x.pull(4);
        Check.due("pin one that is OUT", -1, x.pin(4));
        Check.due("unpin one that is OUT", -1, x.unpin(4));
        Check.due("ACTS", 4, x.about(7));
    }

    private static void undoAndRedo() {
        SandwichTreaty x = Check.told(LUNCH);
        x.pin(4);
        x.day();
        x.move(0, 2);
        x.pull(4);
        x.unpin(0);
        Check.due("four ACTS", 4, x.about(7));
        Check.due("undo a pull", true, x.undo());
        Check.due("it is PINNED as it was", 16, x.about(3));
        Check.dueStack("undone pull", x, 1, 3, 0, 4);
        Check.due("undo a move", true, x.undo());
        Check.dueStack("undone move", x, 0, 1, 3, 4);
        Check.due("undo a DAY", true, x.undo());
        Check.dueStack("undone DAY", x, 0, 1, 2, 3, 4);
        Check.due("the SEED is as it was", 9, x.about(6));
        Check.due("the day is as it was", 0, x.about(5));
        Check.due("undo a pin", true, x.undo());
        Check.due("none PINNED", 0, x.about(3));
        Check.due("no more", false, x.undo());
        Check.due("redone ones", 4, x.about(8));
        Check.due("redo a pin", true, x.redo());
        Check.due("redo a DAY", true, x.redo());
        Check.due("its day", 1, x.about(5));
        Check.due("its SEED", 304, x.about(6));
        Check.due("redo a move", true, x.redo());
        Check.due("redo a pull", true, x.redo());
        Check.dueStack("all redone", x, 1, 3, 0);
        Check.due("no more to redo", false, x.redo());
        Check.due("to be undone", 4, x.about(7));
        Check.due("to be redone", 0, x.about(8));
    }

    private static void undoLimit() {
        SandwichTreaty x = Check.told(LUNCH);
        for (int i = 0; i < 43; i++) {
            x.day();
            Check.due("kept", Math.min(i + 1, 40), x.about(7));
        }
        for (int i = 0; i < 40; i++) {
            Check.due("undo", true, x.undo());
        }
        Check.due("the oldest are gone", false, x.undo());
        Check.due("the day", 3, x.about(5));
        for (int i = 0; i < 40; i++) {
            Check.due("redo", true, x.redo());
            Check.due("day", 4 + i, x.about(5));
        }
        Check.due("no more", false, x.redo());
    }

    private static void redoEnds() {
        SandwichTreaty x = Check.told(LUNCH);
        x.pin(0);
        x.pin(1);
        x.undo();
        Check.due("pin one PINNED", -1, x.pin(0));
        Check.due("what does nothing is no ACT", 1, x.about(8));
        x.pin(3);
        Check.due("another ACT", 0, x.about(8));
        Check.due("none to redo", false, x.redo());
        Check.due("who", 9, x.about(3));
    }

    private static void heightAndGreatest() {
        SandwichTreaty x = Check.told(LUNCH);
        Check.due("height", 16, x.height());
        Check.due("greatest", 0, x.greatest());
        x.pull(4);
        Check.due("height behind a pull", 14, x.height());
        Check.due("greatest behind a pull", 1, x.greatest());
        x.pull(2);
        Check.due("of like ones the first", 0, x.greatest());
        x.pull(0);
        x.pull(3);
        Check.due("the third", 2, x.greatest());
        x.pull(1);
        Check.due("of none the first", 0, x.greatest());
        Check.due("no height", 0, x.height());
        Check.due("without POWERS", -1, new SandwichTreaty().greatest());
    }

    private static void absentAndLoosest() {
        SandwichTreaty x = Check.told(LUNCH);
        Check.due("absent none", 0, x.absent());
        Check.due("loosest", 2, x.loosest());
        x.pin(2);
        Check.due("loosest, not PINNED", 1, x.loosest());
        x.pull(1);
        Check.due("absent mid", 4, x.absent());
        x.pull(0);
        x.pull(4);
        Check.due("absent east and mid", 5, x.absent());
        Check.due("loosest of one", 3, x.loosest());
        x.pin(3);
        Check.due("all PINNED", -1, x.loosest());
        SandwichTreaty y = Check.told("power a;power b;layer l of a thick 1;layer m of a thick 1;slips 0-5;");
        Check.due("of like ones the first", 0, y.loosest());
        y.move(0, 1);
        Check.due("the first by number", 0, y.loosest());
        Check.due("a POWER without LAYERS", 2, y.absent());
        SandwichTreaty z = Check.told("power a;layer l of a thick 1;slips 1024*1024*1024*2;");
        Check.due("the least SLIP", 0, z.loosest());
    }

    private static void images() {
        SandwichTreaty x = Check.told(LUNCH);
        for (int box : new int[] {-1, 3, 32, Integer.MIN_VALUE, Integer.MAX_VALUE}) {
            Check.due("no such BOX", -1, x.image(box));
            Check.due("nothing in it", -1, x.back(box));
        }
        x.pin(1);
        x.day();
        x.move(1, 0);
        Check.due("image", 1, x.image(2));
        Check.due("no ACT", 3, x.about(7));
        x.undo();
        Check.due("BOX 0 is empty", -1, x.back(0));
        Check.due("it did nothing", 1, x.about(8));
        x.day();
        x.day();
        x.unpin(1);
        Check.due("image of another day", 3, x.image(0));
        Check.due("back", 1, x.back(2));
        Check.dueStack("back", x, 1, 0, 3, 4);
        int[] want = {5, 3, 4, 2, 0, 1, 304, 0, 0};
        for (int i = 0; i < want.length; i++) {
            Check.due("back: about(" + i + ")", want[i], x.about(i));
        }
        Check.due("no undo", false, x.undo());
        Check.due("no redo", false, x.redo());
        Check.due("back to the other one", 3, x.back(0));
        x.pull(0);
        Check.due("it is kept still", 3, x.back(0));
        Check.dueStack("still", x, 0, 1, 3, 4);
        Check.due("kept anew", 3, x.image(2));
        Check.due("back to it", 3, x.back(2));
        x.pull(0);
        Check.due("an undo behind it", true, x.undo());
        Check.due("just one", false, x.undo());
    }

    private static void about() {
        SandwichTreaty x = Check.told(LUNCH);
        x.pin(0);
        x.pin(3);
        x.day();
        x.pull(1);
        x.undo();
        x.tasted(0, 0, true);
        x.tasted(0, 1, true);
        x.untell(0);
        x.later(9);
        x.feed(0, 0, 0, 0, 0);
        x.order();
        int[] want = {5, 3, 4, 9, 0, 1, 304, 3, 1, 2, 9, 20, 0, 4, 2, 2};
        for (int i = 0; i < want.length; i++) {
            Check.due("about(" + i + ")", want[i], x.about(i));
        }
        for (int what : new int[] {-1, 16, Integer.MIN_VALUE, Integer.MAX_VALUE}) {
            Check.due("about another", -1, x.about(what));
        }
        Check.due("DAMP", 30, dampBehindADay());
    }

    private static int dampBehindADay() {
        SandwichTreaty x = Check.told("damps 30;");
        x.day();
        return x.about(4);
    }
}
