/** Promises 18 to 21 and 36 to 39: what lies ahead, the damp, the odds. */
public final class OutlookTests {
    private OutlookTests() { }

    private static final String LUNCH = "power east;power west;power mid;layer rye of east thick 5;"
        + "layer ham of mid thick 3 wet 4;layer mus of west thick 1 wet 6;layer wit of west thick 5;"
        + "layer but of east thick 2 wet 1;damps 2;pick 2;sun 30;draw 9;";

    public static void main(String[] args) {
        shaky();
        stands();
        lasts();
        holds();
        law();
        soaks();
        damp();
        odds();
        nothingIsDone();
        Check.finish("OutlookTests");
    }

    private static void shaky() {
        SandwichTreaty x = Check.told(LUNCH);
        Check.due("shaky", 4, x.shaky());
        x.pin(2);
        Check.due("a PINNED one is not", 0, x.shaky());
        Check.due("of none", 0, new SandwichTreaty().shaky());
        SandwichTreaty y = Check.told("power a;layer l of a thick 1;layer m of a thick 1;slips below;");
        Check.due("above 0 alone", 2, y.shaky());
    }

    private static void stands() {
        SandwichTreaty x = Check.told(LUNCH);
        int[] dry = {31, 27, 25, 9, 0, 0};
        for (int n = 0; n < dry.length; n++) {
            Check.due("stands(" + n + ", 0)", dry[n], x.stands(n, 0));
        }
        // SEEDS 304, 719, 574: SUN, SUN, none; so the DAMP is 0, 0, 2.
        int[] sunny = {31, 27, 27, 27, 25};
        for (int n = 0; n < sunny.length; n++) {
            Check.due("stands(" + n + ", 1)", sunny[n], x.stands(n, 1));
        }
        Check.due("stands(60, 0)", 0, x.stands(60, 0));
        Check.due("stands(61, 0)", -1, x.stands(61, 0));
        Check.due("stands(-1, 0)", -1, x.stands(-1, 0));
        Check.due("stands(1, 2)", -1, x.stands(1, 2));
        Check.due("stands(1, -1)", -1, x.stands(1, -1));
        Check.due("stands(MAX, 1)", -1, x.stands(Integer.MAX_VALUE, 1));
        x.pin(0);
        Check.due("a PINNED one stands", 1, x.stands(60, 0));
    }

    private static void lasts() {
        SandwichTreaty x = Check.told(LUNCH);
        int[] want = {4, 2, 1, 4, 3};
        for (int layer = 0; layer < 5; layer++) {
            Check.due("lasts(" + layer + ")", want[layer], x.lasts(layer));
        }
        Check.due("lasts(5)", -1, x.lasts(5));
        Check.due("lasts(-1)", -1, x.lasts(-1));
        x.pull(3);
        Check.due("one that is OUT", 0, x.lasts(3));
        x.pin(0);
        Check.due("a PINNED one", -1, x.lasts(0));
        SandwichTreaty y = Check.told("power a;layer l of a thick 1;layer m of a thick 1;slips day > 58 + below;");
        Check.due("behind 60 DAYS", 60, y.lasts(0));
        Check.due("not in 60 DAYS", -1, y.lasts(1));
    }

    private static void holds() {
        SandwichTreaty x = Check.told(LUNCH);
        Check.due("holds", 1, x.holds());
        x.pin(2);
        Check.due("holds with a pin", 2, x.holds());
        Check.due("holds of none", -1, new SandwichTreaty().holds());
        Check.due("behind 60", 60, Check.told("power a;layer l of a thick 1;slips day = 59;").holds());
        Check.due("not in 60", -1, Check.told("power a;layer l of a thick 1;slips day = 60;").holds());
    }

    private static void law() {
        SandwichTreaty x = Check.told(LUNCH);
        int[] want = {1, 2, 2, 3, 3, 3, 5, 5};
        for (int n = 0; n < want.length; n++) {
            Check.due("law(" + n + ")", want[n], x.law(n));
        }
        Check.due("law(99)", 5, x.law(99));
        Check.due("law(100)", -1, x.law(100));
        Check.due("law(-1)", -1, x.law(-1));
        x.pin(2);
        Check.due("a PINNED one is not counted", 4, x.law(99));
        x.pull(0);
        Check.due("nor one that is OUT", 3, x.law(99));
    }

    private static void soaks() {
        SandwichTreaty x = Check.told(LUNCH);
        int[] want = {6, 1, 0, 6, 3};
        for (int layer = 0; layer < 5; layer++) {
            Check.due("soaks(" + layer + ")", want[layer], x.soaks(layer));
        }
        Check.due("soaks(5)", -1, x.soaks(5));
        Check.due("soaks(-1)", -1, x.soaks(-1));
        x.pin(1);
        Check.due("PINNED or not", 1, x.soaks(1));
        x.pull(1);
        Check.due("OUT", -1, x.soaks(1));
        Check.due("at 99", 99, Check.told("power a;layer l of a thick 1;slips damp > 98;").soaks(0));
        Check.due("by none", -1, Check.told("power a;layer l of a thick 1;slips damp > 99;").soaks(0));
        Check.due("the least", 5, Check.told("power a;layer l of a thick 1;slips damp = 5 or damp = 9;").soaks(0));
    }

    private static void damp() {
        SandwichTreaty x = Check.told("damps 7;sun 71;draw 0;");
        int[] want = {0, 7, 14, 21, 10};
        for (int n = 0; n < want.length; n++) {
            Check.due("damp(" + n + ")", want[n], x.damp(n));
        }
        Check.due("damp(61)", -1, x.damp(61));
        Check.due("damp(-1)", -1, x.damp(-1));
        SandwichTreaty y = Check.told("damps 30;");
        Check.due("99 at most", 99, y.damp(60));
        y.day();
        Check.due("from now", 60, y.damp(1));
        SandwichTreaty z = Check.told("damps 9;sun 100;");
        Check.due("SUN each DAY", 0, z.damp(60));
    }

    private static void odds() {
        int[][] want = {{0, 1, 1}, {30, 7, 10}, {50, 1, 2}, {99, 1, 100}, {100, 0, 1}, {20, 4, 5}, {75, 1, 4}, {1, 99, 100}};
        for (int[] row : want) {
            SandwichTreaty x = Check.told("sun " + row[0] + ";");
            int upper = 1;
            int lower = 1;
            for (int n = 0; n <= 4; n++) {
                Check.due("odds(" + n + ", 0), sun " + row[0], upper, x.odds(n, 0));
                Check.due("odds(" + n + ", 1), sun " + row[0], lower, x.odds(n, 1));
                upper *= row[1];
                lower *= row[2];
            }
            Check.due("odds(5, 0)", -1, x.odds(5, 0));
            Check.due("odds(-1, 0)", -1, x.odds(-1, 0));
            Check.due("odds(1, 2)", -1, x.odds(1, 2));
            Check.due("odds(1, -1)", -1, x.odds(1, -1));
        }
        Check.due("one of a hundred, four times", 100000000, Check.told("sun 99;").odds(4, 1));
    }

    private static void nothingIsDone() {
        SandwichTreaty x = Check.told(LUNCH);
        x.pin(1);
        x.stands(9, 1);
        x.stands(9, 0);
        x.lasts(0);
        x.holds();
        x.law(50);
        x.soaks(3);
        x.damp(30);
        x.stay(0);
        x.pins(20, 1);
        x.change(20, 0);
        x.pillars();
        x.game(0, 1, 4, 0);
        x.order();
        x.fits(0);
        Check.dueStack("nothing is done", x, 0, 1, 2, 3, 4);
        int[] want = {5, 3, 5, 2, 0, 0, 9, 1, 0};
        for (int i = 0; i < want.length; i++) {
            Check.due("nothing is done: about(" + i + ")", want[i], x.about(i));
        }
    }
}
