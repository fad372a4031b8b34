/** The edges of "==== 4." and of promises 41 to 46: what is TASTED, the TIME, FITS, ASK. */
public final class TasteEdgeTests {
    private static final int[] FAR = {Integer.MIN_VALUE, -1000, -2, -1, 32, 1001, Integer.MAX_VALUE};
    /** LAYER l is OUT behind n + 1 DAYS if n times damps is above 20, m if it is above 40, n never. */
    private static final String STEPS = "power a;layer l of a thick 1;layer m of a thick 2;layer n of a thick 3;"
        + "slips thick<3 and damp>thick*20;damps 3;sun 100;draw 8;";
    /** LAYER l is OUT behind 12 DAYS by any damps, m behind 13; n is in the STACK behind 12 by damps above 15 alone. */
    private static final String LATE = "power a;layer l of a thick 1;layer m of a thick 2;layer n of a thick 3;"
        + "slips thick=1 and day=11 or thick=2 and day=12 or thick=3 and day=1 and damp<16;";

    private TasteEdgeTests() { }

    public static void main(String[] args) {
        tastedDays();
        tastedLayers();
        thirtyTasted();
        untoldOnesCount();
        tastedBehindTwelve();
        untellNoneSuch();
        laterNumbers();
        laterUpToItsEnd();
        timeStays();
        fitsDamps();
        countsFromItsTime();
        untoldAtTheSameTime();
        anyTimeCanBeAsked();
        ofTheTableAsTold();
        sureEnds();
        sureOfNone();
        askDays();
        askOfNone();
        askOfLikeOnes();
        askAsKnown();
        tableForgets();
        Check.finish("TasteEdgeTests");
    }

    // ---- promise 41

    private static void tastedDays() {
        SandwichTreaty x = Check.told(STEPS);
        Check.due("13 DAYS", -1, x.tasted(13, 0, true));
        Check.due("-1 DAYS", -1, x.tasted(-1, 0, true));
        for (int far : FAR) {
            Check.due("tasted(" + far + ", ..)", -1, x.tasted(far, 0, false));
        }
        Check.due("nothing is TASTED", 0, x.about(9));
        Check.due("0 DAYS", 0, x.tasted(0, 0, true));
        Check.due("12 DAYS", 1, x.tasted(12, 0, true));
        Check.due("two are", 2, x.about(9));
        // Refused ones take no number.
        x.tasted(13, 0, true);
        Check.due("the next number", 2, x.tasted(1, 0, true));
    }

    private static void tastedLayers() {
        SandwichTreaty x = Check.told(STEPS);
        Check.due("LAYER 3", -1, x.tasted(0, 3, true));
        Check.due("LAYER -1", -1, x.tasted(0, -1, true));
        for (int far : FAR) {
            Check.due("tasted(0, " + far + ", ..)", -1, x.tasted(0, far, true));
        }
        Check.due("LAYER 2", 0, x.tasted(0, 2, true));
        Check.due("LAYER 0", 1, x.tasted(0, 0, true));
        Check.due("without LAYERS", -1, Check.told("power a;").tasted(0, 0, true));
        x.pull(1);
        Check.due("one that is OUT now", 2, x.tasted(0, 1, true));
    }

    private static void thirtyTasted() {
        SandwichTreaty x = Check.told(STEPS);
        for (int i = 0; i < 30; i++) {
            Check.due("the number", i, x.tasted(0, i % 3, true));
            Check.due("how many", i + 1, x.about(9));
        }
        Check.due("a 31st", -1, x.tasted(0, 0, false));
        Check.due("thirty still", 30, x.about(9));
        Check.due("it does not count", 31, x.fits(0));
        Check.due("untell the 31st", false, x.untell(30));
        Check.due("untell the 30th", true, x.untell(29));
    }

    private static void untoldOnesCount() {
        SandwichTreaty x = Check.told(STEPS);
        for (int i = 0; i < 30; i++) {
            x.tasted(0, 0, true);
            x.untell(i);
        }
        x.later(1);
        Check.due("all thirty are TASTED", 30, x.about(9));
        Check.due("there are 30", -1, x.tasted(0, 0, true));
    }

    private static void tastedBehindTwelve() {
        SandwichTreaty x = Check.told(LATE);
        x.tasted(12, 0, false);
        x.tasted(11, 0, true);
        x.tasted(12, 1, true);
        Check.due("by all damps", 31, x.fits(0));
        x.tasted(12, 0, true);
        Check.due("by none", 0, x.fits(0));
        x.untell(3);
        x.tasted(12, 2, true);
        Check.due("16 .. 30", 15, x.fits(0));
        Check.due("from 16", 16, x.sure(0, 0));
        x.tasted(1, 2, false);
        Check.due("none is OUT behind 1", 0, x.fits(0));
    }

    // ---- promise 42

    private static void untellNoneSuch() {
        SandwichTreaty x = Check.told(STEPS);
        Check.due("of none", false, x.untell(0));
        x.tasted(0, 0, false);
        x.tasted(0, 1, false);
        Check.due("the next number", false, x.untell(2));
        Check.due("below 0", false, x.untell(-1));
        for (int far : FAR) {
            Check.due("untell(" + far + ")", false, x.untell(far));
        }
        Check.due("nothing is UNTOLD", 0, x.fits(0));
        Check.due("the last one", true, x.untell(1));
        Check.due("so already", false, x.untell(1));
        Check.due("one is left", 0, x.fits(0));
        Check.due("the first one", true, x.untell(0));
        Check.due("none is left", 31, x.fits(0));
        // A refused one at a later TIME moves nothing.
        x.later(5);
        Check.due("so already, later", false, x.untell(0));
        Check.due("from the time it was", 31, x.fits(4));
    }

    // ---- promise 43

    private static void laterNumbers() {
        SandwichTreaty x = new SandwichTreaty();
        Check.due("later(0)", 0, x.later(0));
        Check.due("later(1)", 1, x.later(1));
        Check.due("later(1000)", 1001, x.later(1000));
        Check.due("later(1001)", -1, x.later(1001));
        Check.due("later(-1)", -1, x.later(-1));
        for (int far : new int[] {Integer.MIN_VALUE, -1000, 2000, 100000, Integer.MAX_VALUE}) {
            Check.due("later(" + far + ")", -1, x.later(far));
        }
        Check.due("it did nothing", 1001, x.about(10));
    }

    private static void laterUpToItsEnd() {
        SandwichTreaty x = new SandwichTreaty();
        for (int i = 1; i < 100; i++) {
            Check.due("goes on", 1000 * i, x.later(1000));
        }
        Check.due("up to 99,999", 99999, x.later(999));
        Check.due("by 2", -1, x.later(2));
        Check.due("by 1000", -1, x.later(1000));
        Check.due("it stays", 99999, x.about(10));
        Check.due("by 1", 100000, x.later(1));
        Check.due("above 100,000", -1, x.later(1));
        Check.due("by 0", 100000, x.later(0));
        SandwichTreaty y = new SandwichTreaty();
        for (int i = 0; i < 99; i++) {
            y.later(1000);
        }
        Check.due("100,000 at once", 100000, y.later(1000));
    }

    private static void timeStays() {
        SandwichTreaty x = Check.told(STEPS);
        x.later(9);
        x.image(0);
        x.day();
        x.later(1);
        x.undo();
        x.back(0);
        Check.due("undo and back leave it", 10, x.about(10));
        Check.tell(x, STEPS);
        Check.due("a table leaves it", 10, x.about(10));
        Check.tell(x, "$");
        Check.due("a FAULT leaves it", 10, x.about(10));
        x.tasted(0, 0, false);
        Check.due("TOLD at 10", 0, x.fits(10));
        Check.due("not at 9", 31, x.fits(9));
    }

    // ---- promise 44

    private static void fitsDamps() {
        Check.due("without LAYERS", 31, new SandwichTreaty().fits(0));
        SandwichTreaty x = Check.told(STEPS);
        Check.due("0 .. 30", 31, x.fits(0));
        // Behind 2 DAYS l is OUT by damps above 20.
        x.tasted(2, 0, true);
        Check.due("0 .. 20", 21, x.fits(0));
        Check.due("the least", 0, x.sure(0, 0));
        Check.due("the greatest", 20, x.sure(1, 0));
        x.untell(0);
        x.tasted(2, 0, false);
        Check.due("21 .. 30", 10, x.fits(0));
        Check.due("the least", 21, x.sure(0, 0));
        Check.due("the greatest", 30, x.sure(1, 0));
        // Just damps 0 keeps l in for ever, just 30 has DAMP 30 behind a DAY.
        SandwichTreaty y = Check.told("power a;layer l of a thick 1;slips damp;");
        y.tasted(2, 0, true);
        Check.due("just 0", 1, y.fits(0));
        Check.due("0 is the greatest", 0, y.sure(1, 0));
        SandwichTreaty z = Check.told("power a;layer l of a thick 1;slips damp>29 and day=1;");
        z.tasted(2, 0, false);
        Check.due("just 30", 1, z.fits(0));
        Check.due("30 is the least", 30, z.sure(0, 0));
        // The DAMP is 99 at most here, too: behind 4 DAYS 30 has 99.
        SandwichTreaty w = Check.told("power a;layer l of a thick 1;slips damp>99;");
        w.tasted(12, 0, true);
        Check.due("99 at most", 31, w.fits(0));
    }

    private static void countsFromItsTime() {
        SandwichTreaty x = Check.told(STEPS);
        x.later(5);
        x.tasted(0, 0, false);
        x.later(3);
        x.untell(0);
        int[] want = {31, 31, 31, 31, 31, 0, 0, 0, 31, 31};
        for (int k = 0; k < want.length; k++) {
            Check.due("as known at " + k, want[k], x.fits(k));
            Check.due("the least at " + k, want[k] == 0 ? -1 : 0, x.sure(0, k));
            Check.due("the greatest at " + k, want[k] == 0 ? -1 : 30, x.sure(1, k));
            Check.due("ask at " + k, want[k] == 0 ? -1 : 0, x.ask(3, 0, k));
        }
    }

    private static void untoldAtTheSameTime() {
        SandwichTreaty x = Check.told(STEPS);
        x.later(2);
        x.tasted(0, 0, false);
        x.untell(0);
        for (int k = 0; k < 5; k++) {
            Check.due("it never counts, " + k, 31, x.fits(k));
        }
        // TOLD again it counts, as another one.
        Check.due("another number", 1, x.tasted(0, 0, false));
        Check.due("at 1", 31, x.fits(1));
        Check.due("at 2", 0, x.fits(2));
        // TOLD at 0, UNTOLD at 0.
        SandwichTreaty y = Check.told(STEPS);
        y.tasted(0, 0, false);
        Check.due("at 0", 0, y.fits(0));
        y.untell(0);
        Check.due("UNTOLD at 0", 31, y.fits(0));
        // UNTOLD a TIME later.
        SandwichTreaty z = Check.told(STEPS);
        z.tasted(0, 0, false);
        z.later(1);
        z.untell(0);
        Check.due("at 0", 0, z.fits(0));
        Check.due("at 1", 31, z.fits(1));
    }

    private static void anyTimeCanBeAsked() {
        SandwichTreaty x = Check.told(STEPS);
        x.tasted(0, 0, false);
        Check.due("ahead of all", 31, x.fits(-1));
        Check.due("far ahead", 31, x.fits(Integer.MIN_VALUE));
        Check.due("a later one than now", 0, x.fits(7));
        Check.due("far later", 0, x.fits(Integer.MAX_VALUE));
        Check.due("sure far ahead", 30, x.sure(1, Integer.MIN_VALUE));
        Check.due("sure far later", -1, x.sure(1, Integer.MAX_VALUE));
        Check.due("ask far ahead", 0, x.ask(0, 0, Integer.MIN_VALUE));
        Check.due("ask far later", -1, x.ask(0, 0, Integer.MAX_VALUE));
        x.untell(0);
        Check.due("UNTOLD, far later", 31, x.fits(Integer.MAX_VALUE));
        Check.due("UNTOLD, far ahead", 31, x.fits(Integer.MIN_VALUE));
    }

    private static void ofTheTableAsTold() {
        SandwichTreaty x = Check.told(STEPS);
        x.tasted(2, 0, false);
        Check.due("damps 21 .. 30", 10, x.fits(0));
        x.pull(0);
        x.pin(1);
        x.day();
        x.move(2, 0);
        Check.due("whatever is done", 10, x.fits(0));
        x.image(0);
        x.back(0);
        Check.due("whatever is gone on from", 10, x.fits(0));
        x.tasted(0, 0, true);
        Check.due("it was in it at first", 10, x.fits(0));
        // By sun 100 the DAMP would never rise; by damps 3 it would be 3.
        Check.due("no SUN, damps not known", 21, x.sure(0, 0));
    }

    // ---- promise 45

    private static void sureEnds() {
        SandwichTreaty x = Check.told(STEPS);
        Check.due("the least of all", 0, x.sure(0, 0));
        Check.due("the greatest of all", 30, x.sure(1, 0));
        Check.due("what 2", -1, x.sure(2, 0));
        Check.due("what -1", -1, x.sure(-1, 0));
        for (int far : FAR) {
            Check.due("sure(" + far + ", 0)", -1, x.sure(far, 0));
        }
        Check.due("without LAYERS", 30, new SandwichTreaty().sure(1, 0));
    }

    private static void sureOfNone() {
        SandwichTreaty x = Check.told(STEPS);
        x.tasted(0, 0, false);
        Check.due("no least", -1, x.sure(0, 0));
        Check.due("no greatest", -1, x.sure(1, 0));
        x.untell(0);
        // Behind 2 DAYS by 21 .. 30, behind 3 by 11 .. 30: in between, not at the ends.
        x.tasted(2, 0, true);
        x.tasted(3, 0, false);
        Check.due("11 .. 20", 10, x.fits(0));
        Check.due("from 11", 11, x.sure(0, 0));
        Check.due("to 20", 20, x.sure(1, 0));
    }

    // ---- promise 46

    private static void askDays() {
        SandwichTreaty x = Check.told(LATE);
        Check.due("0 DAYS", 0, x.ask(0, 0, 0));
        Check.due("0 DAYS, how many", 31, x.ask(0, 1, 0));
        // Behind 2 .. 12 DAYS n tells 16 of 31.
        Check.due("2 DAYS", 2, x.ask(2, 0, 0));
        Check.due("12 DAYS", 2, x.ask(12, 0, 0));
        Check.due("12 DAYS, how many", 16, x.ask(12, 1, 0));
        Check.due("13 DAYS", -1, x.ask(13, 0, 0));
        Check.due("13 DAYS, how many", -1, x.ask(13, 1, 0));
        Check.due("-1 DAYS", -1, x.ask(-1, 0, 0));
        Check.due("-1 DAYS, how many", -1, x.ask(-1, 1, 0));
        Check.due("what 2", -1, x.ask(1, 2, 0));
        Check.due("what -1", -1, x.ask(1, -1, 0));
        for (int far : FAR) {
            Check.due("ask(" + far + ", 0, 0)", -1, x.ask(far, 0, 0));
            Check.due("ask(0, " + far + ", 0)", -1, x.ask(0, far, 0));
        }
        // By nothing done: the LAYER that is asked for may be OUT now.
        x.pull(2);
        Check.due("OUT now", 2, x.ask(12, 0, 0));
    }

    private static void askOfNone() {
        for (int what = 0; what < 2; what++) {
            Check.due("no LAYERS", -1, new SandwichTreaty().ask(0, what, 0));
            Check.due("POWERS, no LAYERS", -1, Check.told("power a;").ask(12, what, 0));
            SandwichTreaty x = Check.told(STEPS);
            x.tasted(0, 0, false);
            Check.due("none FITS", -1, x.ask(3, what, 0));
            Check.due("ahead of it", what == 0 ? 0 : 20, x.ask(3, what, -1));
        }
    }

    private static void askOfLikeOnes() {
        SandwichTreaty x = Check.told("power a;layer l of a thick 1;layer m of a thick 1;layer n of a thick 1;"
            + "slips below>0 and damp>15;");
        // l is in it by all; m and n by 0 .. 15.
        Check.due("of like ones the first", 1, x.ask(2, 0, 0));
        Check.due("at the most", 16, x.ask(2, 1, 0));
        x.tasted(2, 2, true);
        Check.due("all that is left is known", 0, x.ask(2, 0, 0));
        Check.due("all are left", 16, x.ask(2, 1, 0));
        // Yes or no, whichever leaves more: 1 of 31 leaves 30.
        SandwichTreaty y = Check.told("power a;layer l of a thick 1;slips damp;");
        Check.due("30 at the most", 30, y.ask(2, 1, 0));
        y.tasted(2, 0, true);
        Check.due("the one that FITS", 1, y.ask(2, 1, 0));
    }

    private static void askAsKnown() {
        SandwichTreaty x = Check.told(STEPS);
        x.later(4);
        x.tasted(3, 0, false);
        x.later(4);
        x.untell(0);
        int[] layers = {0, 1, 1, 0};
        int[] times = {3, 4, 7, 8};
        for (int i = 0; i < 4; i++) {
            Check.due("who at " + times[i], layers[i], x.ask(3, 0, times[i]));
            Check.due("how many at " + times[i], layers[i] == 0 ? 20 : 10, x.ask(3, 1, times[i]));
        }
    }

    private static void tableForgets() {
        SandwichTreaty x = Check.told(STEPS);
        x.tasted(0, 0, false);
        Check.due("none", 0, x.fits(0));
        Check.tell(x, LATE);
        Check.due("nothing is TASTED", 0, x.about(9));
        Check.due("all", 31, x.fits(0));
        Check.due("numbers from 0", 0, x.tasted(12, 2, true));
        Check.due("by the new table", 15, x.fits(0));
        Check.tell(x, "damps 31;");
        Check.due("a FAULT leaves it", 15, x.fits(0));
        Check.due("and its number", 1, x.about(9));
    }
}
