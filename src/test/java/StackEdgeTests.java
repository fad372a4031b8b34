/** The edges of "==== 2." and of promises 6 to 17, 32 to 35 and 47 to 49: the STACK, SLIP, a DAY, ACTS, BOXES. */
public final class StackEdgeTests {
    private static final int[] FAR = {Integer.MIN_VALUE, -1000, -2, -1, 32, 64, 1000, Integer.MAX_VALUE};
    /** By whole turns of 32 from 1: a shift takes them for 1, a call must not. */
    private static final int[] TURNED = {33, 65, -31, -63, Integer.MIN_VALUE + 1, 32001};
    private static final String THREE = "power a;power b;layer l of a thick 1;layer m of b thick 2;layer n of a thick 4;slips 0;";
    /** 2147483648, which wraps to the least int. */
    private static final String LEAST = "1024*1024*1024*2";

    private StackEdgeTests() { }

    public static void main(String[] args) {
        layerOfNoneSuch();
        layerThatIsOut();
        layerAtTheEnds();
        slipOfNoneSuch();
        slipWraps();
        slipByZero();
        slipIsCut();
        slipTruth();
        slipUntold();
        slipAboveZeroAlone();
        powerOfNoneSuch();
        powerWithoutLayers();
        atNoPlace();
        sunByTheRest();
        seedWraps();
        dampIsHalfOrAtMost();
        dayOfAnEmptyStack();
        dayAllAtOnce();
        dayBehind999();
        aheadBeyond999();
        layOnTop();
        layNoneSuch();
        pullDown();
        pullNoneSuch();
        moveToEachPlace();
        moveNowhere();
        pinAllAndNone();
        pinNoneSuch();
        whoIsOutIsNotPinned();
        undoOfNone();
        undoEachAct();
        fortyActs();
        fortyOneActs();
        redoTillAnotherAct();
        refusedIsNoAct();
        heights();
        greatestOfLikeOnes();
        absentOnes();
        loosestOnes();
        imageBoxes();
        backWithNothing();
        backKeepsNoActs();
        aboutEach();
        Check.finish("StackEdgeTests");
    }

    // ---- promises 6 to 9

    private static void layerOfNoneSuch() {
        SandwichTreaty x = Check.told(THREE);
        for (int what = -1; what <= 7; what++) {
            boolean isOne = what >= 0 && what <= 6;
            Check.due("layer(2, " + what + ")", isOne, x.layer(2, what) != -2);
            Check.due("layer(0, " + what + ")", isOne, x.layer(0, what) != -2);
            Check.due("layer(3, " + what + ")", -2, x.layer(3, what));
            Check.due("layer(-1, " + what + ")", -2, x.layer(-1, what));
            Check.due("layer of an empty TABLE", -2, new SandwichTreaty().layer(0, what));
        }
        for (int far : FAR) {
            Check.due("layer(" + far + ", 0)", -2, x.layer(far, 0));
            Check.due("layer(0, " + far + ")", -2, x.layer(0, far));
        }
    }

    private static void layerThatIsOut() {
        SandwichTreaty x = Check.told("power a;power b;layer l of a thick 3;layer m of b thick 2 wet 7;layer n of a thick 4;");
        x.pin(1);
        int[] in = {1, 2, 7, 1, 1, 4, 2};
        int[] out = {1, 2, 7, -1, 0, 0, 0};
        for (int what = 0; what < 7; what++) {
            Check.due("in the STACK, what " + what, in[what], x.layer(1, what));
        }
        x.pull(1);
        for (int what = 0; what < 7; what++) {
            Check.due("OUT, what " + what, out[what], x.layer(1, what));
        }
        Check.due("OUT, what 7", -2, x.layer(1, 7));
        Check.due("OUT, what -1", -2, x.layer(1, -1));
    }

    private static void layerAtTheEnds() {
        SandwichTreaty x = Check.told(THREE);
        Check.due("above the lowest", 6, x.layer(0, 5));
        Check.due("above the uppermost", 0, x.layer(2, 5));
        Check.due("foes of the lowest", 1, x.layer(0, 6));
        Check.due("foes of the middle one", 2, x.layer(1, 6));
        Check.due("foes of the uppermost", 1, x.layer(2, 6));
        x.pull(1);
        Check.due("foes of its own POWER", 0, x.layer(0, 6));
        x.pull(0);
        Check.due("foes of one alone", 0, x.layer(2, 6));
        Check.due("above one alone", 0, x.layer(2, 5));
        Check.due("place of one alone", 0, x.layer(2, 3));
    }

    private static void slipOfNoneSuch() {
        SandwichTreaty x = Check.told(THREE);
        Check.due("slip(2)", 0, x.slip(2));
        Check.due("slip(3)", -1000000000, x.slip(3));
        Check.due("slip(-1)", -1000000000, x.slip(-1));
        for (int far : FAR) {
            Check.due("slip(" + far + ")", -1000000000, x.slip(far));
        }
        Check.due("slip of an empty TABLE", -1000000000, new SandwichTreaty().slip(0));
        x.pull(2);
        Check.due("slip when OUT", -1000000000, x.slip(2));
        x.lay(2);
        Check.due("slip when it is back", 0, x.slip(2));
    }

    private static int worth(String e) {
        return Check.told("power a;layer l of a thick 7 wet 3;slips " + e + ";").slip(0);
    }

    private static void slipWraps() {
        Check.due("the greatest and 1", Integer.MIN_VALUE, worth(LEAST + "-1+1"));
        Check.due("the greatest", Integer.MAX_VALUE, worth(LEAST + "-1"));
        Check.due("the least", Integer.MIN_VALUE, worth(LEAST));
        Check.due("twice the least", 0, worth(LEAST + "*2"));
        Check.due("0 less the least", Integer.MIN_VALUE, worth("0-" + LEAST));
        Check.due("products", 9999 * 9999 * 9999, worth("9999*9999*9999"));
        Check.due("the least by -1", Integer.MIN_VALUE, worth(LEAST + "/(0-1)"));
        Check.due("the rest of the least by -1", 0, worth(LEAST + "%(0-1)"));
        Check.due("the least is below the greatest", 1, worth("(" + LEAST + ")<(" + LEAST + "-1)"));
        Check.due("the greatest is above the least", 1, worth("(" + LEAST + "-1)>(" + LEAST + ")"));
    }

    private static void slipByZero() {
        Check.due("/ by 0", 0, worth("5/0"));
        Check.due("% by 0", 0, worth("5%0"));
        Check.due("0 / 0", 0, worth("0/0"));
        Check.due("0 % 0", 0, worth("0%0"));
        Check.due("/ by a word that is 0", 0, worth("5/above"));
        Check.due("% by a word that is 0", 0, worth("5%day"));
        Check.due("/ by ( e ) that is 0", 4, worth("4+9/(thick-7)"));
        Check.due("on from / by 0", 3, worth("5/0*2+3"));
        Check.due("the least by 0", 0, worth(LEAST + "/0"));
        Check.due("/ by 1", 5, worth("5/1"));
        Check.due("% by 1", 0, worth("5%1"));
    }

    private static void slipIsCut() {
        Check.due("7 / 2", 3, worth("7/2"));
        Check.due("-7 / 2", -3, worth("(0-7)/2"));
        Check.due("7 / -2", -3, worth("7/(0-2)"));
        Check.due("-7 / -2", 3, worth("(0-7)/(0-2)"));
        Check.due("7 % 2", 1, worth("7%2"));
        Check.due("-7 % 2", -1, worth("(0-7)%2"));
        Check.due("7 % -2", 1, worth("7%(0-2)"));
        Check.due("-7 % -2", -1, worth("(0-7)%(0-2)"));
        Check.due("1 / 2", 0, worth("1/2"));
    }

    private static void slipTruth() {
        String[] values = {"0", "1", "2", "(0-1)", "(" + LEAST + ")"};
        for (String left : values) {
            int is = left.equals("0") ? 0 : 1;
            Check.due("not " + left, 1 - is, worth("not " + left));
            Check.due("not not " + left, is, worth("not not " + left));
            for (String right : values) {
                int other = right.equals("0") ? 0 : 1;
                Check.due(left + " and " + right, is & other, worth(left + " and " + right));
                Check.due(left + " or " + right, is | other, worth(left + " or " + right));
            }
        }
        int[][] rows = {{1, 2, 1, 0, 0}, {2, 2, 0, 0, 1}, {3, 2, 0, 1, 0}};
        for (int[] row : rows) {
            Check.due(row[0] + " < " + row[1], row[2], worth(row[0] + "<" + row[1]));
            Check.due(row[0] + " > " + row[1], row[3], worth(row[0] + ">" + row[1]));
            Check.due(row[0] + " = " + row[1], row[4], worth(row[0] + "=" + row[1]));
        }
    }

    private static void slipUntold() {
        // wet * above / 9, cut: 1 * 8 is below 9, 1 * 9 is 1.
        Check.due("8 above", -1, Check.told("power a;layer l of a thick 1 wet 1;layer m of a thick 8;").slip(0));
        Check.due("9 above", 0, Check.told("power a;layer l of a thick 1 wet 1;layer m of a thick 9;").slip(0));
        Check.due("18 above", 1, Check.told("power a;layer l of a thick 1 wet 1;layer m of a thick 18;").slip(0));
        StringBuilder most = new StringBuilder("power a;layer a of a thick 20 wet 20;");
        for (char name = 'b'; name <= 'h'; name++) {
            most.append("layer ").append(name).append(" of a thick 20;");
        }
        Check.due("the most above", 20 * 140 / 9 - 20, Check.told(most.toString()).slip(0));
        SandwichTreaty x = Check.told("power a;layer l of a thick 5;damps 2;");
        x.day();
        Check.due("the DAMP", -3, x.slip(0));
    }

    private static void slipAboveZeroAlone() {
        Check.due("SLIP 1", 1, Check.told("power a;layer l of a thick 1;slips 1;").day());
        Check.due("SLIP 0", 0, Check.told("power a;layer l of a thick 1;slips 0;").day());
        Check.due("SLIP -1", 0, Check.told("power a;layer l of a thick 1;slips 0-1;").day());
        Check.due("the greatest SLIP", 1, Check.told("power a;layer l of a thick 1;slips " + LEAST + "-1;").day());
        Check.due("the least SLIP", 0, Check.told("power a;layer l of a thick 1;slips " + LEAST + ";").day());
        Check.due("SLIP 1 is SHAKY", 1, Check.told("power a;layer l of a thick 1;slips 1;").shaky());
        Check.due("SLIP 0 is not", 0, Check.told("power a;layer l of a thick 1;slips 0;").shaky());
    }

    private static void powerOfNoneSuch() {
        SandwichTreaty x = Check.told(THREE);
        for (int what = -1; what <= 3; what++) {
            boolean isOne = what >= 0 && what <= 2;
            Check.due("power(1, " + what + ")", isOne, x.power(1, what) != -1);
            Check.due("power(2, " + what + ")", -1, x.power(2, what));
            Check.due("power(-1, " + what + ")", -1, x.power(-1, what));
            Check.due("power of an empty TABLE", -1, new SandwichTreaty().power(0, what));
        }
        for (int far : FAR) {
            Check.due("power(" + far + ", 0)", -1, x.power(far, 0));
            Check.due("power(0, " + far + ")", -1, x.power(0, far));
        }
    }

    private static void powerWithoutLayers() {
        SandwichTreaty x = Check.told("power a;power b;power c;layer l of a thick 3;layer m of c thick 4;layer n of a thick 5;");
        for (int what = 0; what < 3; what++) {
            Check.due("a POWER without LAYERS, what " + what, 0, x.power(1, what));
        }
        int[] first = {5, 8, 4};
        int[] third = {2, 4, 1};
        for (int what = 0; what < 3; what++) {
            Check.due("power(0, " + what + ")", first[what], x.power(0, what));
            Check.due("power(2, " + what + ")", third[what], x.power(2, what));
        }
        x.pull(1);
        for (int what = 0; what < 3; what++) {
            Check.due("all its LAYERS OUT, what " + what, 0, x.power(2, what));
        }
        Check.due("next to its own alone", 0, x.power(0, 2));
        // Next to it, not two places off.
        SandwichTreaty y = Check.told("power a;power b;power c;layer l of a thick 1;layer m of b thick 1;layer n of c thick 1;");
        Check.due("below", 2, y.power(0, 2));
        Check.due("on both sides", 5, y.power(1, 2));
        Check.due("above", 2, y.power(2, 2));
    }

    private static void atNoPlace() {
        SandwichTreaty x = Check.told(THREE);
        Check.dueStack("three", x, 0, 1, 2);
        for (int far : FAR) {
            Check.due("at(" + far + ")", -1, x.at(far));
        }
        x.pull(0);
        Check.dueStack("two", x, 1, 2);
        x.pull(1);
        x.pull(2);
        Check.dueStack("none", x);
        Check.dueStack("an empty TABLE", new SandwichTreaty());
    }

    // ---- promise 10, a DAY

    private static int dampBehindADay(int draw, int sun) {
        SandwichTreaty x = Check.told("damps 7;draw " + draw + ";sun " + sun + ";");
        Check.due("damp(1) of draw " + draw + ", sun " + sun, x.damp(1), dampByDay(x));
        return x.about(4);
    }

    private static int dampByDay(SandwichTreaty x) {
        x.day();
        return x.about(4);
    }

    private static void sunByTheRest() {
        for (int draw : new int[] {0, 17, 44, 500, 999}) {
            int rest = (draw * 137 + 71) % 1000 % 100;
            for (int sun = 0; sun <= 100; sun++) {
                Check.due("draw " + draw + ", sun " + sun, rest < sun ? 0 : 7, dampBehindADay(draw, sun));
            }
        }
        // The rests 0 and 99, so that sun 0 is never, sun 100 always.
        Check.due("rest 0, sun 0", 7, dampBehindADay(17, 0));
        Check.due("rest 0, sun 1", 0, dampBehindADay(17, 1));
        Check.due("rest 99, sun 99", 7, dampBehindADay(44, 99));
        Check.due("rest 99, sun 100", 0, dampBehindADay(44, 100));
    }

    private static void seedWraps() {
        int[][] rows = {{0, 71}, {999, 934}, {6, 893}, {7, 30}, {17, 400}, {44, 99}};
        for (int[] row : rows) {
            SandwichTreaty x = Check.told("draw " + row[0] + ";");
            Check.due("the SEED at first", row[0], x.about(6));
            x.day();
            Check.due("the SEED behind draw " + row[0], row[1], x.about(6));
        }
        SandwichTreaty x = Check.told("draw 123;sun 40;");
        int seed = 123;
        for (int i = 0; i < 120; i++) {
            x.day();
            seed = (seed * 137 + 71) % 1000;
            Check.due("the SEED goes on", seed, x.about(6));
        }
    }

    private static void dampIsHalfOrAtMost() {
        SandwichTreaty x = Check.told("damps 1;");
        for (int day = 1; day <= 101; day++) {
            x.day();
            Check.due("damps 1, day " + day, Math.min(day, 99), x.about(4));
        }
        int[] thirties = {30, 60, 90, 99, 99};
        SandwichTreaty y = Check.told("damps 30;");
        for (int want : thirties) {
            y.day();
            Check.due("damps 30", want, y.about(4));
        }
        int[] full = {33, 66, 99, 99};
        SandwichTreaty v = Check.told("damps 11;");
        for (int want : full) {
            v.day();
            v.day();
            v.day();
            Check.due("damps 11", want, v.about(4));
        }
        SandwichTreaty z = Check.told("damps 0;");
        z.day();
        Check.due("damps 0", 0, z.about(4));
        // The rests are 40, 51, 58, 17, 0: SUN on the fifth DAY alone, from 99.
        int[] sunny = {30, 60, 90, 99, 49};
        SandwichTreaty w = Check.told("damps 30;draw 37;sun 1;");
        for (int want : sunny) {
            w.day();
            Check.due("half of 99, cut", want, w.about(4));
        }
        SandwichTreaty u = Check.told("damps 1;draw 58;sun 1;");
        u.day();
        u.day();
        Check.due("half of 1, cut", 0, u.about(4));
    }

    private static void dayOfAnEmptyStack() {
        SandwichTreaty x = new SandwichTreaty();
        Check.due("a DAY of an empty TABLE", 0, x.day());
        Check.due("it is a DAY", 1, x.about(5));
        Check.due("an ACT", 1, x.about(7));
        Check.due("its DAMP", 1, x.about(4));
        SandwichTreaty y = Check.told("power a;layer l of a thick 1;slips 1;");
        y.pull(0);
        Check.due("a DAY with all OUT", 0, y.day());
    }

    private static void dayAllAtOnce() {
        // Were 1 taken out first, 0 and 2 would have no foes.
        SandwichTreaty x = Check.told("power a;power b;layer l of a thick 1;layer m of b thick 1;layer n of a thick 1;slips foes;");
        Check.due("all by what is so ahead", 7, x.day());
        SandwichTreaty y = Check.told("power a;layer l of a thick 1;layer m of a thick 1;layer n of a thick 1;slips above=1;");
        Check.due("the middle one", 2, y.day());
        Check.due("then the lowest one", 1, y.day());
        Check.due("then none", 0, y.day());
        Check.dueStack("one is left", y, 2);
        // By the DAMP and the day as they are ahead of the DAY.
        SandwichTreaty z = Check.told("power a;layer l of a thick 1;slips damp>0 and day>0;");
        Check.due("DAMP 0, day 0", 0, z.day());
        Check.due("DAMP 1, day 1", 1, z.day());
        // The eighth LAYER's bit.
        StringBuilder text = new StringBuilder("power a;slips 1;");
        for (char name = 'a'; name <= 'h'; name++) {
            text.append("layer ").append(name).append(" of a thick 1;");
        }
        SandwichTreaty w = Check.told(text.toString());
        w.pin(3);
        Check.due("all but the PINNED one", 255 - 8, w.day());
        Check.dueStack("the PINNED one", w, 3);
    }

    private static SandwichTreaty aged(String text, int days) {
        SandwichTreaty x = Check.told(text);
        for (int i = 0; i < days; i++) {
            x.day();
        }
        return x;
    }

    private static void dayBehind999() {
        // Beyond the 512 calls that are promised; it is kept to all the same.
        SandwichTreaty x = aged("damps 0;draw 7;", 998);
        Check.due("behind 998", 998, x.about(5));
        Check.due("the 999th", 0, x.day());
        int seed = x.about(6);
        Check.due("a thousandth", -1, x.day());
        Check.due("the day stays", 999, x.about(5));
        Check.due("the SEED stays", seed, x.about(6));
        Check.due("no ACT", 40, x.about(7));
        x.undo();
        Check.due("998 again", 998, x.about(5));
        Check.due("none is refused now", 0, x.day());
        x.undo();
        Check.due("redo goes up to 999", true, x.redo());
        Check.due("behind it none", -1, x.day());
        x.undo();
        x.image(0);
        x.redo();
        x.day();
        Check.due("a refused DAY leaves what can be redone", false, x.redo());
        x.undo();
        Check.due("back", 998, x.back(0));
        Check.due("the 999th again", 0, x.day());
    }

    private static void aheadBeyond999() {
        SandwichTreaty x = aged("power a;layer l of a thick 1;layer m of a thick 1;damps 0;slips day>1000 and below;", 999);
        Check.due("the day", 999, x.about(5));
        Check.due("behind 2 DAYS", 3, x.stands(2, 0));
        Check.due("behind 3 DAYS", 1, x.stands(3, 0));
        Check.due("behind 3 DAYS by the SEED", 1, x.stands(3, 1));
        Check.due("holds", 3, x.holds());
        Check.due("lasts", 3, x.lasts(1));
        Check.due("pins(2)", 0, x.pins(2, 1));
        Check.due("pins(3)", 2, x.pins(3, 1));
        SandwichTreaty y = aged("damps 1;sun 100;", 999);
        Check.due("DAMP", 0, y.damp(60));
        SandwichTreaty z = aged("power a;power b;layer l of a thick 1;layer m of b thick 1;slips day>1000 and below and foes and thick;", 999);
        Check.due("change(2)", -1, z.change(2, 0));
    }

    // ---- promises 11 to 15

    private static void layOnTop() {
        SandwichTreaty x = Check.told(THREE);
        x.pull(0);
        x.pull(1);
        x.pull(2);
        Check.due("on the plain", 0, x.lay(2));
        Check.due("on one", 1, x.lay(0));
        Check.due("on two", 2, x.lay(1));
        Check.dueStack("as laid", x, 2, 0, 1);
        Check.due("all are in", -1, x.lay(0));
        StringBuilder text = new StringBuilder("power a;slips 0;");
        for (char name = 'a'; name <= 'h'; name++) {
            text.append("layer ").append(name).append(" of a thick 1;");
        }
        SandwichTreaty y = Check.told(text.toString());
        Check.due("a full STACK", -1, y.lay(7));
        y.pull(0);
        Check.due("at the last place", 7, y.lay(0));
        Check.dueStack("full again", y, 1, 2, 3, 4, 5, 6, 7, 0);
    }

    private static void layNoneSuch() {
        SandwichTreaty x = Check.told(THREE);
        x.pull(2);
        Check.due("lay(3)", -1, x.lay(3));
        Check.due("lay(-1)", -1, x.lay(-1));
        for (int far : FAR) {
            Check.due("lay(" + far + ")", -1, x.lay(far));
        }
        Check.due("lay one in the STACK", -1, x.lay(1));
        Check.due("ACTS", 1, x.about(7));
        Check.due("lay(2)", 2, x.lay(2));
        Check.due("lay of an empty TABLE", -1, new SandwichTreaty().lay(0));
    }

    private static void pullDown() {
        SandwichTreaty x = Check.told(THREE);
        Check.due("the uppermost", 2, x.pull(2));
        Check.due("the lowest", 0, x.pull(0));
        Check.due("the last one", 0, x.pull(1));
        Check.dueStack("none is left", x);
    }

    private static void pullNoneSuch() {
        SandwichTreaty x = Check.told(THREE);
        Check.due("pull(3)", -1, x.pull(3));
        Check.due("pull(-1)", -1, x.pull(-1));
        for (int far : FAR) {
            Check.due("pull(" + far + ")", -1, x.pull(far));
        }
        x.pull(1);
        Check.due("pull one that is OUT", -1, x.pull(1));
        Check.due("ACTS", 1, x.about(7));
        Check.due("pull of an empty TABLE", -1, new SandwichTreaty().pull(0));
    }

    private static void moveToEachPlace() {
        int[][] want = {{1, 2, 3, 0}, {2, 1, 3, 0}, {2, 3, 1, 0}, {2, 3, 0, 1}};
        for (int from = 0; from < 4; from++) {
            for (int to = 0; to < 4; to++) {
                SandwichTreaty x = Check.told("power a;layer k of a thick 1;layer l of a thick 1;layer m of a thick 1;"
                    + "layer n of a thick 1;");
                Check.due("move(" + from + ", " + to + ")", from == to ? -1 : from, x.move(from, to));
                Check.due("it is there then", from, x.at(to));
                Check.due("ACTS", from == to ? 0 : 1, x.about(7));
                int next = 0;
                for (int place = 0; place < 4; place++) {
                    next += next == from ? 1 : 0;
                    if (place != to) {
                        Check.due("the others in their order", next, x.at(place));
                        next++;
                    }
                }
            }
        }
        SandwichTreaty y = Check.told("power a;layer k of a thick 1;layer l of a thick 1;layer m of a thick 1;layer n of a thick 1;");
        int[] layers = {0, 2, 1, 0};
        int[] places = {3, 0, 2, 2};
        for (int i = 0; i < 4; i++) {
            y.move(layers[i], places[i]);
            Check.dueStack("moves on", y, want[i]);
        }
    }

    private static void moveNowhere() {
        SandwichTreaty x = Check.told(THREE);
        Check.due("beyond the top", -1, x.move(0, 3));
        Check.due("below the lowest", -1, x.move(0, -1));
        Check.due("there already", -1, x.move(1, 1));
        Check.due("no such LAYER", -1, x.move(3, 0));
        Check.due("no such LAYER below", -1, x.move(-1, 0));
        for (int far : FAR) {
            Check.due("move(1, " + far + ")", -1, x.move(1, far));
            Check.due("move(" + far + ", 1)", -1, x.move(far, 1));
        }
        Check.due("no ACTS", 0, x.about(7));
        x.pull(1);
        Check.due("one that is OUT", -1, x.move(1, 0));
        Check.due("OUT to its own place", -1, x.move(1, -1));
        Check.due("beyond the top now", -1, x.move(0, 2));
        Check.due("the top", 0, x.move(0, 1));
        x.pull(0);
        Check.due("one alone", -1, x.move(2, 0));
        Check.due("one alone, beyond", -1, x.move(2, 1));
        Check.due("of an empty TABLE", -1, new SandwichTreaty().move(0, 0));
    }

    private static void pinAllAndNone() {
        SandwichTreaty x = Check.told(THREE);
        Check.due("the first pin", 1, x.pin(2));
        Check.due("the second", 2, x.pin(0));
        Check.due("all", 3, x.pin(1));
        Check.due("who", 7, x.about(3));
        Check.due("unpin one", 2, x.unpin(1));
        Check.due("unpin another", 1, x.unpin(2));
        Check.due("the last", 0, x.unpin(0));
        Check.due("none", 0, x.about(3));
    }

    private static void pinNoneSuch() {
        SandwichTreaty x = Check.told(THREE);
        x.pin(1);
        Check.due("PINNED already", -1, x.pin(1));
        Check.due("not PINNED", -1, x.unpin(0));
        for (int none : new int[] {3, -1, 8}) {
            Check.due("pin(" + none + ")", -1, x.pin(none));
            Check.due("unpin(" + none + ")", -1, x.unpin(none));
        }
        for (int far : FAR) {
            Check.due("pin(" + far + ")", -1, x.pin(far));
            Check.due("unpin(" + far + ")", -1, x.unpin(far));
        }
        for (int turned : TURNED) {
            Check.due("pin(" + (turned - 1) + ")", -1, x.pin(turned - 1));
            Check.due("unpin(" + turned + ")", -1, x.unpin(turned));
        }
        x.pull(2);
        Check.due("pin one that is OUT", -1, x.pin(2));
        Check.due("unpin one that is OUT", -1, x.unpin(2));
        Check.due("ACTS", 2, x.about(7));
        Check.due("who", 2, x.about(3));
        Check.due("pin of an empty TABLE", -1, new SandwichTreaty().pin(0));
        Check.due("unpin of an empty TABLE", -1, new SandwichTreaty().unpin(0));
    }

    private static void whoIsOutIsNotPinned() {
        SandwichTreaty x = Check.told(THREE);
        x.pin(0);
        x.pin(2);
        x.pull(0);
        Check.due("pulled OUT", 4, x.about(3));
        x.lay(0);
        Check.due("laid on again", 4, x.about(3));
        Check.due("pin again", 2, x.pin(0));
        x.undo();
        x.undo();
        x.undo();
        Check.due("the pull is undone", 5, x.about(3));
        x.redo();
        Check.due("and redone", 4, x.about(3));
        Check.due("a PINNED one is moved", 1, x.move(2, 0));
        Check.due("and stays PINNED", 4, x.about(3));
    }

    // ---- promises 16 and 17

    private static void undoOfNone() {
        SandwichTreaty x = new SandwichTreaty();
        Check.due("undo of none", false, x.undo());
        Check.due("redo of none", false, x.redo());
        x.day();
        Check.due("redo of none taken back", false, x.redo());
        Check.due("undo of one", true, x.undo());
        Check.due("undo of no more", false, x.undo());
        Check.due("redo of one", true, x.redo());
        Check.due("redo of no more", false, x.redo());
        Check.due("the day", 1, x.about(5));
    }

    private static void undoEachAct() {
        SandwichTreaty x = Check.told(THREE + "draw 3;sun 50;damps 4;");
        String[] seen = new String[8];
        for (int i = 0; i < 8; i++) {
            seen[i] = stateOf(x);
            switch (i) {
                case 0: x.day(); break;
                case 1: x.pin(1); break;
                case 2: x.move(1, 0); break;
                case 3: x.pull(2); break;
                case 4: x.day(); break;
                case 5: x.lay(2); break;
                case 6: x.unpin(1); break;
                default: break;
            }
        }
        for (int i = 6; i >= 0; i--) {
            Check.due("undo", true, x.undo());
            Check.due("as ahead of ACT " + i, true, stateOf(x).equals(seen[i]));
            Check.due("to be undone", i, x.about(7));
            Check.due("to be redone", 7 - i, x.about(8));
        }
        for (int i = 1; i <= 7; i++) {
            Check.due("redo", true, x.redo());
            Check.due("as behind ACT " + i, true, stateOf(x).equals(seen[i]));
        }
    }

    private static String stateOf(SandwichTreaty x) {
        StringBuilder text = new StringBuilder();
        for (int place = 0; place < 8; place++) {
            text.append(x.at(place)).append(' ');
        }
        for (int what = 2; what < 7; what++) {
            text.append(x.about(what)).append(' ');
        }
        return text.toString();
    }

    private static void fortyActs() {
        SandwichTreaty x = aged("damps 1;", 40);
        Check.due("forty are kept", 40, x.about(7));
        for (int i = 0; i < 40; i++) {
            Check.due("undo", true, x.undo());
        }
        Check.due("no more", false, x.undo());
        Check.due("as at first", 0, x.about(5));
        Check.due("forty can be redone", 40, x.about(8));
        for (int i = 0; i < 40; i++) {
            Check.due("redo", true, x.redo());
        }
        Check.due("no more to redo", false, x.redo());
        Check.due("the day", 40, x.about(5));
    }

    private static void fortyOneActs() {
        SandwichTreaty x = aged("damps 1;", 41);
        Check.due("forty are kept", 40, x.about(7));
        for (int i = 0; i < 40; i++) {
            Check.due("undo", true, x.undo());
        }
        Check.due("the oldest is gone", false, x.undo());
        Check.due("behind the oldest", 1, x.about(5));
        // With thirty-nine left to undo there is room for one more.
        for (int i = 0; i < 39; i++) {
            x.redo();
        }
        Check.due("39 to undo", 39, x.about(7));
        Check.due("1 to redo", 1, x.about(8));
        x.day();
        Check.due("40 to undo", 40, x.about(7));
        Check.due("none to redo", 0, x.about(8));
        for (int i = 0; i < 40; i++) {
            x.undo();
        }
        Check.due("nothing more is gone", 1, x.about(5));
        SandwichTreaty y = aged("damps 1;", 120);
        for (int i = 0; i < 40; i++) {
            Check.due("undo", true, y.undo());
            Check.due("its day", 119 - i, y.about(5));
            Check.due("its DAMP", Math.min(119 - i, 99), y.about(4));
        }
        Check.due("the oldest are gone", false, y.undo());
    }

    private static void redoTillAnotherAct() {
        String[] acts = {"day", "lay", "pull", "move", "pin", "unpin"};
        for (String act : acts) {
            SandwichTreaty x = Check.told(THREE);
            x.pin(1);
            x.pull(2);
            x.day();
            x.day();
            x.undo();
            x.undo();
            Check.due("two to redo", 2, x.about(8));
            switch (act) {
                case "day": x.day(); break;
                case "lay": x.lay(2); break;
                case "pull": x.pull(0); break;
                case "move": x.move(0, 1); break;
                case "pin": x.pin(0); break;
                default: x.unpin(1); break;
            }
            Check.due("none to redo behind " + act, 0, x.about(8));
            Check.due("redo behind " + act, false, x.redo());
            Check.due("three to undo behind " + act, 3, x.about(7));
        }
    }

    private static void refusedIsNoAct() {
        SandwichTreaty x = Check.told(THREE);
        x.pin(1);
        x.pull(2);
        x.day();
        x.undo();
        x.lay(0);
        x.lay(3);
        x.pull(2);
        x.pull(-1);
        x.move(0, 0);
        x.move(0, 2);
        x.move(2, 0);
        x.pin(1);
        x.pin(2);
        x.unpin(0);
        x.unpin(9);
        x.image(1);
        x.back(0);
        x.order();
        x.stay(1);
        x.game(0, 1, 4, 0);
        x.tasted(1, 1, true);
        x.later(3);
        Check.due("one to redo still", 1, x.about(8));
        Check.due("two to undo still", 2, x.about(7));
        Check.due("redo", true, x.redo());
        Check.due("the day", 1, x.about(5));
    }

    // ---- promises 32 to 35

    private static void heights() {
        SandwichTreaty x = Check.told(THREE);
        Check.due("all", 7, x.height());
        x.pull(2);
        Check.due("two", 3, x.height());
        x.pull(0);
        x.pull(1);
        Check.due("none", 0, x.height());
        Check.due("an empty TABLE", 0, new SandwichTreaty().height());
    }

    private static void greatestOfLikeOnes() {
        SandwichTreaty x = Check.told("power a;power b;power c;layer k of b thick 3;layer l of c thick 2;layer m of c thick 1;"
            + "layer n of a thick 4;slips 0;");
        Check.due("the thickest", 0, x.greatest());
        x.pull(3);
        Check.due("of like ones the first", 1, x.greatest());
        x.pull(0);
        Check.due("the last POWER", 2, x.greatest());
        x.pull(1);
        x.pull(2);
        Check.due("of an empty STACK the first", 0, x.greatest());
        Check.due("POWERS without LAYERS", 0, Check.told("power a;power b;").greatest());
        Check.due("without POWERS", -1, Check.told("damps 3;").greatest());
    }

    private static void absentOnes() {
        SandwichTreaty x = Check.told("power a;power b;power c;power d;layer k of b thick 3;layer l of d thick 2;slips 0;");
        Check.due("POWERS without LAYERS", 5, x.absent());
        x.pull(0);
        Check.due("whose LAYER is OUT", 7, x.absent());
        x.pull(1);
        Check.due("all", 15, x.absent());
        Check.due("none of none", 0, new SandwichTreaty().absent());
        SandwichTreaty y = Check.told("power a;power b;layer l of a thick 1;layer m of b thick 1;");
        Check.due("none", 0, y.absent());
        y.pull(0);
        Check.due("the first", 1, y.absent());
    }

    private static void loosestOnes() {
        SandwichTreaty x = Check.told("power a;layer k of a thick 2;layer l of a thick 5;layer m of a thick 5;layer n of a thick 3;"
            + "slips thick;");
        Check.due("of like ones the first", 1, x.loosest());
        x.pin(1);
        Check.due("not PINNED", 2, x.loosest());
        x.pull(2);
        Check.due("in the STACK", 3, x.loosest());
        x.pin(3);
        x.pin(0);
        Check.due("all PINNED", -1, x.loosest());
        x.unpin(0);
        Check.due("but one", 0, x.loosest());
        x.pull(0);
        x.pull(1);
        x.pull(3);
        Check.due("of an empty STACK", -1, x.loosest());
        Check.due("of an empty TABLE", -1, new SandwichTreaty().loosest());
        SandwichTreaty y = Check.told("power a;layer k of a thick 2;layer l of a thick 1;slips 0-thick;");
        Check.due("the most of those below 0", 1, y.loosest());
        SandwichTreaty z = Check.told("power a;layer k of a thick 2;layer l of a thick 1;slips " + LEAST + "+below;");
        Check.due("near the least", 1, z.loosest());
        z.pull(1);
        Check.due("the least", 0, z.loosest());
    }

    // ---- promises 47 to 49

    private static void imageBoxes() {
        SandwichTreaty x = Check.told(THREE + "draw 3;sun 50;damps 4;");
        for (int box = 0; box < 3; box++) {
            Check.due("image(" + box + ")", box, x.image(box));
            x.day();
            x.pin(box);
        }
        Check.due("image(3)", -1, x.image(3));
        Check.due("image(-1)", -1, x.image(-1));
        for (int far : FAR) {
            Check.due("image(" + far + ")", -1, x.image(far));
        }
        for (int box = 2; box >= 0; box--) {
            Check.due("back(" + box + ")", box, x.back(box));
            Check.due("the day", box, x.about(5));
            Check.due("who is PINNED", (1 << box) - 1, x.about(3));
        }
        // A BOX that is filled again has the later image.
        x.pull(1);
        Check.due("image again", 0, x.image(2));
        x.lay(1);
        x.back(2);
        Check.dueStack("the later image", x, 0, 2);
    }

    private static void backWithNothing() {
        SandwichTreaty x = Check.told(THREE);
        x.image(1);
        x.pull(0);
        x.pull(1);
        x.undo();
        for (int box : new int[] {0, 2, 3, -1, 4, 31}) {
            Check.due("back(" + box + ")", -1, x.back(box));
        }
        for (int far : FAR) {
            Check.due("back(" + far + ")", -1, x.back(far));
        }
        for (int turned : TURNED) {
            Check.due("back(" + turned + ")", -1, x.back(turned));
        }
        Check.due("ACTS stay", 1, x.about(7));
        Check.due("and what can be redone", 1, x.about(8));
        Check.dueStack("the STACK, too", x, 1, 2);
        Check.due("back(1)", 0, x.back(1));
        Check.dueStack("as kept", x, 0, 1, 2);
    }

    private static void backKeepsNoActs() {
        SandwichTreaty x = Check.told(THREE + "draw 3;sun 50;damps 4;");
        x.tasted(0, 0, false);
        x.order();
        x.day();
        x.image(0);
        Check.due("an image is no ACT", 1, x.about(7));
        x.pin(2);
        x.day();
        x.undo();
        Check.due("back", 1, x.back(0));
        Check.due("nothing to undo", 0, x.about(7));
        Check.due("nothing to redo", 0, x.about(8));
        Check.due("undo", false, x.undo());
        Check.due("redo", false, x.redo());
        Check.due("what is TASTED stays", 1, x.about(9));
        Check.due("what lies there stays", 3, x.about(13));
        x.pull(2);
        Check.due("one to undo", true, x.undo());
        Check.due("just as it was kept", 0, x.about(3));
        Check.due("no more", false, x.undo());
        Check.due("the BOX is still full", 1, x.back(0));
    }

    private static void aboutEach() {
        SandwichTreaty x = Check.told(THREE + "damps 9;pick 6;draw 12;");
        x.feed(0, 0, 0, 0, 0);
        int[] want = {3, 2, 3, 0, 0, 0, 12, 0, 0, 0, 0, 20, 1, 0, 9, 6};
        for (int what = 0; what < 16; what++) {
            Check.due("about(" + what + ")", want[what], x.about(what));
        }
        Check.due("about(16)", -1, x.about(16));
        Check.due("about(-1)", -1, x.about(-1));
        for (int far : FAR) {
            Check.due("about(" + far + ")", -1, x.about(far));
        }
    }
}
