/** Promises 22 to 31 and 40: what would be best, and what lies there. */
public final class PlanTests {
    private PlanTests() { }

    private static final String LUNCH = "power east;power west;power mid;layer rye of east thick 5;"
        + "layer ham of mid thick 3 wet 4;layer mus of west thick 1 wet 6;layer wit of west thick 5;"
        + "layer but of east thick 2 wet 1;damps 2;pick 2;sun 30;draw 9;";

    public static void main(String[] args) {
        order();
        stay();
        pins();
        picks();
        cut();
        change();
        pillars();
        between();
        wedged();
        game();
        gameOfLikeTurns();
        Check.finish("PlanTests");
    }

    private static SandwichTreaty of(String thick, String slips) {
        StringBuilder text = new StringBuilder("power a;");
        char name = 'a';
        for (String one : thick.split(" ")) {
            text.append("layer ").append(name++).append(" of a thick ").append(one).append(";");
        }
        return Check.told(text.append("slips ").append(slips).append(";").toString());
    }

    private static void order() {
        SandwichTreaty x = Check.told(LUNCH);
        Check.due("order", 0, x.order());
        Check.dueLies("order", x, 0, 1, 3, 2, 4);
        x.pull(3);
        Check.dueLies("it lies there still", x, 0, 1, 3, 2, 4);
        SandwichTreaty none = new SandwichTreaty();
        Check.due("order of none", 0, none.order());
        Check.dueLies("order of none", none);
        // One must be on the place 2, and slips: the thinnest; the rest by their numbers.
        SandwichTreaty y = of("4 3 2 5", "below = 2");
        Check.due("one is SHAKY", 1, y.order());
        Check.dueLies("the thinnest", y, 0, 1, 2, 3);
        SandwichTreaty z = of("2 3 4 5", "below = 2");
        Check.due("one is SHAKY", 1, z.order());
        Check.dueLies("the thinnest, then the first", z, 1, 2, 0, 3);
        z.pin(3);
        Check.due("the PINNED one goes there", 0, z.order());
        Check.dueLies("the PINNED one", z, 0, 1, 3, 2);
        z.pull(1);
        Check.due("those in the STACK alone", 0, z.order());
        Check.dueLies("those in the STACK", z, 0, 2, 3);
        SandwichTreaty w = Check.told("power a;power b;layer l of a thick 1;layer m of b thick 1;layer n of a thick 1;"
            + "layer o of b thick 1;slips foes > 1;");
        Check.due("by foes", 0, w.order());
        Check.dueLies("by foes", w, 0, 1, 3, 2);
        SandwichTreaty v = of("1 1 1 1 1 1 1 1", "0");
        v.move(0, 7);
        Check.due("all are like", 0, v.order());
        Check.dueLies("the first of all", v, 0, 1, 2, 3, 4, 5, 6, 7);
    }

    private static void stay() {
        SandwichTreaty x = Check.told(LUNCH);
        Check.due("stay(0)", 4, x.stay(0));
        Check.due("stay(1)", 27, x.stay(1));
        Check.due("stay(2)", -1, x.stay(2));
        Check.due("stay(-1)", -1, x.stay(-1));
        SandwichTreaty y = of("3 4 4 1", "below > 1");
        Check.due("how many", 2, y.stay(0));
        Check.due("the thickest", 6, y.stay(1));
        SandwichTreaty z = of("4 3 4 4", "below > 1");
        Check.due("of like ones the least bits", 5, z.stay(1));
        z.pin(3);
        Check.due("PINNED as they are", 3, z.stay(0));
        Check.due("with the PINNED one", 13, z.stay(1));
        SandwichTreaty w = of("1 1 1", "1");
        Check.due("none can stay", 0, w.stay(0));
        Check.due("none can stay, bits", 0, w.stay(1));
        SandwichTreaty v = of("2 5 2 2", "above > 4");
        Check.due("in its order", 14, v.stay(1));
        v.move(1, 3);
        Check.due("in another order", 13, v.stay(1));
    }

    private static void pins() {
        SandwichTreaty x = Check.told(LUNCH);
        int[] want = {0, 4, 6, 22, 31, 31};
        for (int n = 0; n < want.length; n++) {
            Check.due("pins(" + n + ", 1)", want[n], x.pins(n, 1));
            Check.due("pins(" + n + ", 0)", Integer.bitCount(want[n]), x.pins(n, 0));
        }
        Check.due("pins(20, 0)", 5, x.pins(20, 0));
        Check.due("pins(21, 0)", -1, x.pins(21, 0));
        Check.due("pins(-1, 0)", -1, x.pins(-1, 0));
        Check.due("pins(1, 2)", -1, x.pins(1, 2));
        Check.due("pins(1, -1)", -1, x.pins(1, -1));
        x.pin(2);
        Check.due("besides now", 0, x.pins(1, 0));
        Check.due("besides now, bits", 2, x.pins(2, 1));
        SandwichTreaty y = of("1 1", "day = 1 and below = 1");
        Check.due("on a day between", 2, y.pins(5, 1));
    }

    private static void picks() {
        SandwichTreaty x = Check.told(LUNCH);
        Check.due("picks", 1, x.picks());
        Check.dueLies("picks", x, 2);
        SandwichTreaty y = of("1 1 1 1 1 1 1 1", "below % 3 < 2");
        Check.due("picks of 3", 3, y.picks());
        Check.dueLies("picks of 3", y, 0, 3, 6);
        SandwichTreaty z = Check.told("power a;layer l of a thick 1;layer m of a thick 1;layer n of a thick 1;"
            + "layer o of a thick 1;slips below > 0;pick 2;");
        Check.due("picks of 2", 2, z.picks());
        Check.dueLies("picks of 2", z, 1, 3);
        z.pin(1);
        Check.due("PINNED ones need none", 1, z.picks());
        Check.dueLies("PINNED ones need none", z, 2);
        z.order();
        z.pin(2);
        z.pin(3);
        Check.due("no picks", 0, z.picks());
        Check.dueLies("no picks", z);
        SandwichTreaty w = Check.told("power a;layer l of a thick 1;layer m of a thick 1;slips 1;pick 1;");
        Check.due("picks of 1", 2, w.picks());
        Check.dueLies("picks of 1", w, 0, 1);
    }

    private static void cut() {
        SandwichTreaty x = Check.told(LUNCH);
        Check.due("cut(0)", 2, x.cut(0));
        Check.due("cut(1)", 0, x.cut(1));
        Check.due("cut(2)", -1, x.cut(2));
        Check.due("cut(-1)", -1, x.cut(-1));
        SandwichTreaty y = of("1 2 1", "0");
        Check.due("of like ones the lowest", 1, y.cut(0));
        Check.due("by 2", 2, y.cut(1));
        SandwichTreaty z = of("1 20", "0");
        Check.due("of two", 1, z.cut(0));
        Check.due("by 19", 19, z.cut(1));
        z.pull(0);
        Check.due("of one", -1, z.cut(0));
        Check.due("of none", -1, new SandwichTreaty().cut(1));
        SandwichTreaty w = of("1 1 1 9", "0");
        Check.due("the last place", 3, w.cut(0));
        Check.due("by 6", 6, w.cut(1));
    }

    private static void change() {
        SandwichTreaty x = Check.told(LUNCH);
        Check.due("change(1, 0)", 2, x.change(1, 0));
        Check.due("change(1, 1)", 3, x.change(1, 1));
        Check.due("change(1, 2)", 5, x.change(1, 2));
        Check.due("change(1, 3)", -1, x.change(1, 3));
        Check.due("change(1, -1)", -1, x.change(1, -1));
        Check.due("change(0, 0)", -1, x.change(0, 0));
        Check.due("change(-1, 0)", -1, x.change(-1, 0));
        Check.due("change(21, 0)", -1, x.change(21, 0));
        x.pin(2);
        Check.due("none is more than all", -1, x.change(1, 2));
        // All stay when the thickness goes up from below.
        SandwichTreaty y = of("3 2 1", "below + 1 < thick or below + 1 > thick");
        Check.due("the first one", 0, y.change(1, 0));
        Check.due("the other one", 2, y.change(1, 1));
        Check.due("how many", 3, y.change(1, 2));
        y.move(2, 0);
        y.move(0, 2);
        Check.due("none is better", -1, y.change(20, 0));
        Check.due("of one", -1, of("1", "1").change(1, 0));
    }

    private static void pillars() {
        SandwichTreaty x = of("1 1 1", "below = 0 and above = 1");
        // Whichever goes, the lower one of the two that are left has 1 above it.
        Check.due("each is a pillar", 7, x.pillars());
        x.pin(0);
        Check.due("0 holds by its pin", 1, x.pillars());
        SandwichTreaty y = of("5 1 1", "above < 1 and below = 1");
        // Without 0: 1 is at the bottom, 2 at place 1 with nothing above. Without 1 the same for 2. Without 2: 1 is on top.
        Check.due("all are pillars", 7, y.pillars());
        y.pin(2);
        Check.due("a PINNED one is never SHAKY", 4, y.pillars());
        SandwichTreaty z = of("1 1", "1");
        Check.due("SHAKY now already", 0, z.pillars());
        Check.due("of none", 0, new SandwichTreaty().pillars());
    }

    private static void between() {
        SandwichTreaty x = Check.told(LUNCH);
        Check.due("between(0, 1)", 4, x.between(0, 1));
        Check.due("between(1, 0)", 4, x.between(1, 0));
        Check.due("between(0, 2)", 2, x.between(0, 2));
        Check.due("between(1, 2)", 0, x.between(1, 2));
        Check.due("between(0, 0)", -1, x.between(0, 0));
        Check.due("between(0, 3)", -1, x.between(0, 3));
        Check.due("between(-1, 0)", -1, x.between(-1, 0));
        Check.due("between(5, 5)", -1, x.between(5, 5));
        x.pull(0);
        Check.due("without the one below", 0, x.between(0, 1));
        Check.due("with the one above", 2, x.between(0, 2));
    }

    private static void wedged() {
        SandwichTreaty x = Check.told("power a;power b;layer l of a thick 1;layer m of b thick 1;layer n of a thick 1;"
            + "layer o of a thick 1;layer p of b thick 1;layer q of b thick 1;layer r of a thick 1;");
        Check.due("wedged(0)", 2, x.wedged(0));
        Check.due("wedged(1)", 0, x.wedged(1));
        x.pull(5);
        Check.due("two of them", 18, x.wedged(0));
        x.pull(3);
        Check.due("in the other one", 4, x.wedged(1));
        Check.due("wedged(2)", -1, x.wedged(2));
        Check.due("wedged(-1)", -1, x.wedged(-1));
        // One of its own between two of its own is not.
        x.pull(1);
        x.pull(4);
        Check.due("its own", 0, x.wedged(0));
    }

    private static void game() {
        SandwichTreaty x = Check.told(LUNCH);
        Check.due("game(0, 1, 1, 0)", 2, x.game(0, 1, 1, 0));
        Check.due("game(0, 1, 1, 1)", -1, x.game(0, 1, 1, 1));
        Check.due("both are one", -1000, x.game(1, 1, 1, 0));
        Check.due("no such POWER", -1000, x.game(0, 3, 1, 0));
        Check.due("no such first one", -1000, x.game(-1, 0, 1, 0));
        Check.due("no turns", -1000, x.game(0, 1, 0, 0));
        Check.due("five turns", -1000, x.game(0, 1, 5, 0));
        Check.due("another what", -1000, x.game(0, 1, 1, 2));
        Check.due("another what below", -1000, x.game(0, 1, 1, -1));
        x.pull(0);
        x.pull(3);
        x.pull(4);
        Check.due("one turn", 5, x.game(0, 1, 1, 0));
        Check.due("one turn, who", 0, x.game(0, 1, 1, 1));
    }

    private static void gameOfLikeTurns() {
        SandwichTreaty x = Check.told("power a;power b;layer l of a thick 2;layer m of a thick 2;layer n of b thick 2;slips 0;");
        x.pull(0);
        x.pull(1);
        x.pull(2);
        Check.due("of like turns the least number", 0, x.game(0, 1, 1, 1));
        Check.due("two turns", 0, x.game(0, 1, 2, 0));
        Check.due("three turns", 2, x.game(0, 1, 3, 0));
        Check.due("four turns", 2, x.game(0, 1, 4, 0));
        Check.due("the other one first", -2, x.game(1, 0, 4, 0));
        SandwichTreaty y = Check.told("power a;power b;layer l of a thick 2;layer n of b thick 2;slips 1;");
        y.pull(0);
        Check.due("of like turns none first", -1, y.game(0, 1, 1, 1));
        Check.due("nobody stands", 0, y.game(0, 1, 1, 0));
        // To lay can be to lose: what lies under more than 2 slips.
        SandwichTreaty z = Check.told("power a;power b;layer l of a thick 4;layer m of a thick 3;layer n of b thick 1;slips above > 2;");
        z.pull(1);
        z.pull(2);
        Check.due("none is best", 4, z.game(0, 1, 1, 0));
        Check.due("none is best, who", -1, z.game(0, 1, 1, 1));
    }
}
