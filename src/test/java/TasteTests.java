/** Promises 41 to 46: what was tasted, known in two times, and the next layer to look for. */
public final class TasteTests {
    private TasteTests() { }

    /** Layer l comes OUT behind the first day whose damp is above 20, m above 40, n never. */
    private static final String STEPS = "power a;layer l of a thick 1;layer m of a thick 2;layer n of a thick 3;"
        + "slips thick < 3 and damp > thick * 20;damps 3;sun 100;";

    public static void main(String[] args) {
        tasted();
        limit();
        untell();
        later();
        fits();
        twoTimes();
        asTold();
        ask();
        Check.finish("TasteTests");
    }

    private static void tasted() {
        SandwichTreaty x = Check.told(STEPS);
        Check.due("tasted at 0", 0, x.tasted(0, 0, true));
        Check.due("tasted at 12", 1, x.tasted(12, 2, true));
        Check.due("tasted at 13", -1, x.tasted(13, 0, true));
        Check.due("tasted at -1", -1, x.tasted(-1, 0, true));
        Check.due("no such LAYER", -1, x.tasted(1, 3, true));
        Check.due("no such LAYER below", -1, x.tasted(1, -1, false));
        Check.due("how many", 2, x.about(9));
        Check.due("without LAYERS", -1, new SandwichTreaty().tasted(0, 0, true));
    }

    private static void limit() {
        SandwichTreaty x = Check.told(STEPS);
        for (int i = 0; i < 30; i++) {
            Check.due("tasted", i, x.tasted(i % 13, 2, true));
        }
        Check.due("a 31st", -1, x.tasted(0, 2, true));
        x.untell(3);
        Check.due("a 31st with one UNTOLD", -1, x.tasted(0, 2, true));
        Check.due("about(9)", 30, x.about(9));
        Check.due("fits", 31, x.fits(0));
    }

    private static void untell() {
        SandwichTreaty x = Check.told(STEPS);
        Check.due("none such", false, x.untell(0));
        x.tasted(0, 0, false);
        Check.due("none fits", 0, x.fits(0));
        Check.due("none such below", false, x.untell(-1));
        Check.due("none such above", false, x.untell(1));
        Check.due("it is UNTOLD", true, x.untell(0));
        Check.due("it is so already", false, x.untell(0));
        Check.due("all fit", 31, x.fits(0));
    }

    private static void later() {
        SandwichTreaty x = new SandwichTreaty();
        Check.due("later(0)", 0, x.later(0));
        Check.due("later(1000)", 1000, x.later(1000));
        Check.due("later(1001)", -1, x.later(1001));
        Check.due("later(-1)", -1, x.later(-1));
        Check.due("later(MAX)", -1, x.later(Integer.MAX_VALUE));
        for (int i = 2; i < 100; i++) {
            x.later(1000);
        }
        Check.due("later(999)", 99999, x.later(999));
        Check.due("above 100,000", -1, x.later(2));
        Check.due("up to 100,000", 100000, x.later(1));
        Check.due("no more", -1, x.later(1));
        Check.due("later(0) at the end", 100000, x.later(0));
        Check.due("about(10)", 100000, x.about(10));
    }

    private static void fits() {
        SandwichTreaty x = Check.told(STEPS);
        Check.due("nothing known", 31, x.fits(0));
        Check.due("the least", 0, x.sure(0, 0));
        Check.due("the greatest", 30, x.sure(1, 0));
        Check.due("another what", -1, x.sure(2, 0));
        Check.due("another what below", -1, x.sure(-1, 0));
        // Behind 2 days l is out when the damp behind 1 is above 20.
        x.tasted(2, 0, false);
        Check.due("damps 21 ..", 10, x.fits(0));
        Check.due("from 21", 21, x.sure(0, 0));
        Check.due("to 30", 30, x.sure(1, 0));
        x.tasted(3, 1, true);
        // Behind 3 days m stands when twice the damps is 40 at most.
        Check.due("none", 0, x.fits(0));
        Check.due("no least", -1, x.sure(0, 0));
        Check.due("no greatest", -1, x.sure(1, 0));
        x.untell(0);
        Check.due("0 .. 20", 21, x.fits(0));
        Check.due("to 20", 20, x.sure(1, 0));
    }

    private static void twoTimes() {
        SandwichTreaty x = Check.told(STEPS);
        x.later(5);
        x.tasted(2, 0, false);
        x.later(5);
        x.tasted(3, 0, false);
        x.untell(0);
        x.later(5);
        x.untell(1);
        int[][] want = {{Integer.MIN_VALUE, 31}, {-1, 31}, {0, 31}, {4, 31}, {5, 10}, {9, 10}, {10, 20}, {14, 20}, {15, 31},
            {Integer.MAX_VALUE, 31}};
        for (int[] row : want) {
            Check.due("fits(" + row[0] + ")", row[1], x.fits(row[0]));
            Check.due("sure(0, " + row[0] + ")", 31 - row[1], x.sure(0, row[0]));
        }
        // Told and untold at one time: it never counts.
        x.tasted(0, 0, false);
        x.untell(2);
        Check.due("at one time", 31, x.fits(15));
    }

    private static void asTold() {
        SandwichTreaty x = Check.told(STEPS);
        x.day();
        x.pull(0);
        x.pin(1);
        x.move(2, 0);
        x.tasted(0, 0, true);
        Check.due("nothing done", 31, x.fits(0));
        x.tasted(12, 1, false);
        // 11 times the damps is above 40 from 4 on; SUN each day would keep it in.
        Check.due("no SUN", 4, x.sure(0, 0));
        Check.due("no pin", 27, x.fits(0));
    }

    private static void ask() {
        SandwichTreaty x = Check.told(STEPS);
        // Behind 3 days l stands by 0 .. 10 (twice is above 20 from 11 on), m by 0 .. 20, n by all.
        Check.due("ask(3, 0, 0)", 0, x.ask(3, 0, 0));
        Check.due("ask(3, 1, 0)", 20, x.ask(3, 1, 0));
        Check.due("of like ones the first", 0, x.ask(0, 0, 0));
        Check.due("all are left", 31, x.ask(0, 1, 0));
        Check.due("another what", -1, x.ask(3, 2, 0));
        Check.due("another what below", -1, x.ask(3, -1, 0));
        Check.due("13 DAYS", -1, x.ask(13, 0, 0));
        Check.due("-1 DAYS", -1, x.ask(-1, 0, 0));
        // Behind 12 days l stands by 0 and 1, m by 0 .. 3.
        Check.due("12 DAYS", 1, x.ask(12, 0, 0));
        Check.due("12 DAYS, how many", 27, x.ask(12, 1, 0));
        x.tasted(3, 0, false);
        Check.due("of those that fit", 1, x.ask(3, 0, 0));
        Check.due("10 and 10", 10, x.ask(3, 1, 0));
        Check.due("as known ahead", 0, x.ask(3, 0, -1));
        x.tasted(0, 2, false);
        Check.due("none fits", -1, x.ask(3, 0, 0));
        Check.due("none fits, how many", -1, x.ask(3, 1, 0));
        Check.due("no LAYERS", -1, new SandwichTreaty().ask(0, 0, 0));
        Check.due("no LAYERS, how many", -1, new SandwichTreaty().ask(0, 1, 0));
    }
}
