/** The edges of "==== 3." and of promises 18 to 31 and 36 to 40: what lies ahead, what would be best, what lies there. */
public final class AheadEdgeTests {
    private static final int[] FAR = {Integer.MIN_VALUE, -1000, -2, -1, 1000, Integer.MAX_VALUE};

    private AheadEdgeTests() { }

    public static void main(String[] args) {
        ofAnEmptyTable();
        ofAnEmptyStack();
        shakyEnds();
        standsDays();
        standsByTheSeed();
        lastsDays();
        holdsDays();
        orderFewestShaky();
        orderThickestOfLikeOnes();
        orderFirstOfLikeOnes();
        orderWithPins();
        stayMost();
        stayOfLikeOnes();
        stayWithPins();
        pinsDays();
        pinsBesidesNow();
        picksEnds();
        picksOfEachLength();
        cutEnds();
        cutOfLikeOnes();
        changeDays();
        changeOnlyIfMore();
        changeOfLikeOnes();
        changeWithPins();
        pillarsEnds();
        betweenEnds();
        betweenWays();
        wedgedEnds();
        gameArguments();
        gameTurns();
        gameOfLikeTurns();
        gameDay();
        lawDamps();
        soaksDamps();
        dampDays();
        oddsDays();
        oddsLowestTerms();
        liesEnds();
        liesTillTheNext();
        noneIsDone();
        Check.finish("AheadEdgeTests");
    }

    /** LAYERS of the POWERS told by letters, as thick as told. */
    private static SandwichTreaty of(String powers, int[] thick, String rest) {
        StringBuilder text = new StringBuilder("power a;power b;power c;");
        for (int i = 0; i < thick.length; i++) {
            text.append("layer ").append((char) ('k' + i)).append(" of ").append(powers.charAt(i)).append(" thick ")
                .append(thick[i]).append(";");
        }
        return Check.told(text.append(rest).toString());
    }

    private static SandwichTreaty ofOne(String slips, int... thick) {
        return of("aaaaaaaa", thick, "slips " + slips + ";");
    }

    private static final int[] EIGHT = {1, 1, 1, 1, 1, 1, 1, 1};

    private static void ofAnEmptyTable() {
        SandwichTreaty x = new SandwichTreaty();
        dueEmpty("an empty TABLE", x);
        Check.due("lasts", -1, x.lasts(0));
        Check.due("between", -1, x.between(0, 1));
        Check.due("wedged", -1, x.wedged(0));
        Check.due("game", -1000, x.game(0, 1, 1, 0));
    }

    private static void ofAnEmptyStack() {
        SandwichTreaty x = ofOne("1", 2, 3);
        x.pull(0);
        x.pull(1);
        dueEmpty("an empty STACK", x);
        Check.due("lasts", 0, x.lasts(0));
        Check.due("between", 0, x.between(0, 1));
        Check.due("wedged", 0, x.wedged(0));
        Check.due("game", 0, x.game(0, 1, 1, 0));
        Check.due("game, who", -1, x.game(0, 1, 1, 1));
    }

    private static void dueEmpty(String what, SandwichTreaty x) {
        Check.due(what + ": shaky", 0, x.shaky());
        Check.due(what + ": stands(0, 0)", 0, x.stands(0, 0));
        Check.due(what + ": stands(60, 1)", 0, x.stands(60, 1));
        Check.due(what + ": holds", -1, x.holds());
        Check.due(what + ": order", 0, x.order());
        Check.dueLies(what + ": order", x);
        Check.due(what + ": stay(0)", 0, x.stay(0));
        Check.due(what + ": stay(1)", 0, x.stay(1));
        Check.due(what + ": pins(20, 0)", 0, x.pins(20, 0));
        Check.due(what + ": pins(20, 1)", 0, x.pins(20, 1));
        Check.due(what + ": picks", 0, x.picks());
        Check.dueLies(what + ": picks", x);
        Check.due(what + ": cut(0)", -1, x.cut(0));
        Check.due(what + ": cut(1)", -1, x.cut(1));
        for (int part = 0; part < 3; part++) {
            Check.due(what + ": change(1, " + part + ")", -1, x.change(1, part));
        }
        Check.due(what + ": pillars", 0, x.pillars());
        Check.due(what + ": law(0)", 0, x.law(0));
        Check.due(what + ": law(99)", 0, x.law(99));
        Check.due(what + ": soaks(0)", -1, x.soaks(0));
    }

    // ---- promises 18 to 21

    private static void shakyEnds() {
        SandwichTreaty x = of("aaaaaaaa", EIGHT, "slips 1;");
        Check.due("all eight", 255, x.shaky());
        x.pin(7);
        Check.due("not a PINNED one", 127, x.shaky());
        x.pull(0);
        Check.due("not one that is OUT", 126, x.shaky());
        Check.due("just as the next DAY", x.shaky(), x.day());
        Check.due("SLIP 0", 0, ofOne("0", 1).shaky());
    }

    private static void standsDays() {
        SandwichTreaty x = ofOne("day>58+below", 1, 1, 1);
        Check.due("behind 0", 7, x.stands(0, 0));
        Check.due("behind 59", 7, x.stands(59, 0));
        Check.due("behind 60", 6, x.stands(60, 0));
        Check.due("behind 60 by the SEED", 6, x.stands(60, 1));
        Check.due("behind 61", -1, x.stands(61, 0));
        Check.due("behind 61 by the SEED", -1, x.stands(61, 1));
        Check.due("behind -1", -1, x.stands(-1, 0));
        Check.due("behind -1 by the SEED", -1, x.stands(-1, 1));
        Check.due("what 2", -1, x.stands(1, 2));
        Check.due("what -1", -1, x.stands(1, -1));
        for (int far : FAR) {
            Check.due("stands(" + far + ", 0)", -1, x.stands(far, 0));
            Check.due("stands(1, " + far + ")", -1, x.stands(1, far));
        }
    }

    private static void standsByTheSeed() {
        // SEED 71 at first: by sun 72 there is SUN, so the DAMP stays 0.
        SandwichTreaty x = of("a", new int[] {1}, "slips damp;damps 5;sun 72;");
        Check.due("no SUN", 0, x.stands(2, 0));
        Check.due("SUN", 1, x.stands(2, 1));
        SandwichTreaty y = of("a", new int[] {1}, "slips damp;damps 5;sun 71;");
        Check.due("no SUN by the SEED", 0, y.stands(2, 1));
        SandwichTreaty z = of("a", new int[] {1}, "slips damp;damps 5;sun 100;");
        Check.due("SUN each DAY", 1, z.stands(60, 1));
        Check.due("no SUN, if not told otherwise", 2, z.lasts(0));
        Check.due("no SUN for holds", 2, z.holds());
        Check.due("no SUN for pins", 1, z.pins(2, 1));
        z.day();
        Check.due("by what is now", 1, z.stands(1, 0));
        Check.due("from day 1", 2, z.lasts(0));
    }

    private static void lastsDays() {
        SandwichTreaty x = ofOne("day>57+below", 1, 1, 1, 1);
        Check.due("behind 59", 59, x.lasts(0));
        Check.due("behind 60", 60, x.lasts(1));
        Check.due("behind 60, too", 60, x.lasts(2));
        Check.due("not in 60", -1, x.lasts(3));
        Check.due("not in 60", -1, ofOne("day>59", 1).lasts(0));
        Check.due("in 60", 60, ofOne("day>58", 1).lasts(0));
        Check.due("behind 1", 1, ofOne("1", 1).lasts(0));
        Check.due("never", -1, ofOne("0", 1).lasts(0));
        x.pin(0);
        Check.due("a PINNED one", -1, x.lasts(0));
        x.pull(3);
        Check.due("0: it is OUT", 0, x.lasts(3));
        Check.due("none such", -1, x.lasts(4));
        Check.due("none such below", -1, x.lasts(-1));
        for (int far : FAR) {
            Check.due("lasts(" + far + ")", -1, x.lasts(far));
        }
    }

    private static void holdsDays() {
        Check.due("behind 1", 1, ofOne("1", 1).holds());
        Check.due("behind 2", 2, ofOne("day", 1).holds());
        Check.due("behind 59", 59, ofOne("day>57", 1).holds());
        Check.due("behind 60", 60, ofOne("day>58", 1).holds());
        Check.due("not in 60", -1, ofOne("day>59", 1).holds());
        Check.due("never", -1, ofOne("0", 1).holds());
        SandwichTreaty x = ofOne("day>2*below", 1, 1);
        Check.due("the first one", 2, x.holds());
        x.pin(0);
        Check.due("the other one", 4, x.holds());
        x.pin(1);
        Check.due("all PINNED", -1, x.holds());
    }

    // ---- promise 22

    private static void orderFewestShaky() {
        // Thicker ones slip above thinner ones' places: each wants its own place.
        SandwichTreaty x = ofOne("not thick=below+1", 8, 7, 6, 5, 4, 3, 2, 1);
        Check.due("none is SHAKY", 0, x.order());
        Check.dueLies("each at its place", x, 7, 6, 5, 4, 3, 2, 1, 0);
        Check.due("nothing is done", 255, x.shaky());
        SandwichTreaty y = ofOne("1", 3, 2, 1);
        Check.due("all are SHAKY", 3, y.order());
        Check.dueLies("the first", y, 0, 1, 2);
        // Of eight just the thickest may not be uppermost, or just not lowest.
        SandwichTreaty top = ofOne("above=0 and thick=8", 1, 2, 3, 4, 5, 6, 7, 8);
        Check.due("by what is uppermost", 0, top.order());
        Check.dueLies("by what is uppermost", top, 0, 1, 2, 3, 4, 5, 7, 6);
        SandwichTreaty low = ofOne("below=0 and thick=8", 8, 2, 3, 4, 5, 6, 7, 1);
        Check.due("by what is lowest", 0, low.order());
        Check.dueLies("by what is lowest", low, 1, 0, 2, 3, 4, 5, 6, 7);
        // Of eight in two POWERS none may have a foe next to it: two must have.
        SandwichTreaty foes = of("abababab", EIGHT, "slips foes;");
        Check.due("the two at the border", 2, foes.order());
        Check.dueLies("the two at the border", foes, 0, 2, 4, 6, 1, 3, 5, 7);
        SandwichTreaty mixed = of("aabbccab", EIGHT, "slips foes<2;");
        Check.due("all but the ends", 2, mixed.order());
        Check.dueLies("all but the ends", mixed, 0, 2, 1, 3, 4, 6, 5, 7);
        SandwichTreaty one = ofOne("1", 3);
        Check.due("one", 1, one.order());
        Check.dueLies("one", one, 0);
    }

    private static void orderThickestOfLikeOnes() {
        // Whoever is lowest slips: the thinnest is.
        SandwichTreaty x = ofOne("below=0", 4, 3, 2, 5);
        Check.due("one is SHAKY", 1, x.order());
        Check.dueLies("the thinnest", x, 2, 0, 1, 3);
        SandwichTreaty y = ofOne("below=0", 3, 3, 4);
        Check.due("of like ones", 1, y.order());
        Check.dueLies("the first of the thinnest", y, 0, 1, 2);
        // Fewer SHAKY ones are ahead of thickness: 20 slips alone, or two of 1.
        SandwichTreaty z = ofOne("above+thick>21 or thick<3 and below>1", 20, 1, 1);
        Check.due("fewest are ahead of thickest", 1, z.order());
        // Two have one foe each, whatever the order; the thickest of one POWER may have none, or the inner ones two.
        SandwichTreaty w = of("aab", new int[] {1, 3, 2}, "slips foes=1;");
        Check.due("two at the border", 2, w.order());
        Check.dueLies("the thickest away from it", w, 1, 0, 2);
        SandwichTreaty v = of("aabb", new int[] {1, 2, 1, 3}, "slips foes=1;");
        Check.due("two at the ends", 2, v.order());
        Check.dueLies("the thickest within", v, 0, 3, 1, 2);
    }

    private static void orderFirstOfLikeOnes() {
        SandwichTreaty x = of("aaaaaaaa", EIGHT, "slips 0;");
        for (int layer = 0; layer < 8; layer++) {
            x.move(layer, 0);
        }
        Check.dueStack("turned around", x, 7, 6, 5, 4, 3, 2, 1, 0);
        Check.due("none is SHAKY", 0, x.order());
        Check.dueLies("from below the least number", x, 0, 1, 2, 3, 4, 5, 6, 7);
        // Foes: two of one POWER, two of the other one, none may have two foes.
        SandwichTreaty y = of("abab", new int[] {1, 1, 1, 1}, "slips foes>1;");
        Check.due("by foes", 0, y.order());
        Check.dueLies("the first by foes", y, 0, 1, 3, 2);
        SandwichTreaty z = of("abab", new int[] {1, 1, 1, 1}, "slips foes;");
        Check.due("one next to a foe each", 2, z.order());
        Check.dueLies("the first", z, 0, 2, 1, 3);
    }

    private static void orderWithPins() {
        SandwichTreaty x = ofOne("below=1", 5, 4, 3);
        Check.due("one is SHAKY", 1, x.order());
        Check.dueLies("the thinnest", x, 0, 2, 1);
        x.pin(0);
        Check.due("PINNED as they are", 0, x.order());
        Check.dueLies("the PINNED one", x, 1, 0, 2);
        x.pull(0);
        Check.due("OUT", 1, x.order());
        Check.dueLies("two", x, 1, 2);
    }

    // ---- promise 23

    private static void stayMost() {
        SandwichTreaty x = of("aaaaaaaa", EIGHT, "slips below>6;");
        Check.due("seven", 7, x.stay(0));
        Check.due("the least set", 127, x.stay(1));
        SandwichTreaty y = of("aaaaaaaa", EIGHT, "slips 0;");
        Check.due("all", 8, y.stay(0));
        Check.due("all, as bits", 255, y.stay(1));
        SandwichTreaty z = of("aaaaaaaa", EIGHT, "slips 1;");
        Check.due("none", 0, z.stay(0));
        Check.due("none, as bits", 0, z.stay(1));
        SandwichTreaty one = ofOne("above", 1, 1, 1);
        Check.due("one", 1, one.stay(0));
        Check.due("the first one", 1, one.stay(1));
        Check.due("what 2", -1, one.stay(2));
        Check.due("what -1", -1, one.stay(-1));
        for (int far : FAR) {
            Check.due("stay(" + far + ")", -1, one.stay(far));
        }
    }

    private static void stayOfLikeOnes() {
        SandwichTreaty x = ofOne("below>0", 2, 3, 3, 1);
        Check.due("the thickest, then the least set", 2, x.stay(1));
        SandwichTreaty y = ofOne("below>1", 1, 5, 1, 5);
        Check.due("the thickest two", 10, y.stay(1));
        // More are ahead of thicker ones.
        SandwichTreaty z = ofOne("above>9", 1, 1, 20, 1);
        Check.due("three of 1", 3, z.stay(0));
        Check.due("which", 11, z.stay(1));
        Check.due("the least of like sums", 3, ofOne("below>1", 4, 4, 4, 4).stay(1));
    }

    private static void stayWithPins() {
        SandwichTreaty x = ofOne("1", 2, 3, 3, 1);
        x.pin(3);
        Check.due("the PINNED one", 8, x.stay(1));
        x.pin(1);
        Check.due("both", 10, x.stay(1));
        x.pull(0);
        Check.due("of the STACK", 10, x.stay(1));
        SandwichTreaty y = ofOne("below=0", 1, 1, 1);
        y.pin(1);
        Check.due("on the PINNED one", 6, y.stay(1));
        y.move(1, 2);
        Check.due("in its order", 2, y.stay(1));
    }

    // ---- promise 24

    private static void pinsDays() {
        SandwichTreaty x = ofOne("day=19 and below=1", 1, 1);
        Check.due("pins(0, 1)", 0, x.pins(0, 1));
        Check.due("pins(19, 1)", 0, x.pins(19, 1));
        Check.due("pins(20, 1)", 2, x.pins(20, 1));
        Check.due("pins(20, 0)", 1, x.pins(20, 0));
        Check.due("pins(21, 1)", -1, x.pins(21, 1));
        Check.due("pins(-1, 1)", -1, x.pins(-1, 1));
        Check.due("pins(21, 0)", -1, x.pins(21, 0));
        Check.due("pins(-1, 0)", -1, x.pins(-1, 0));
        Check.due("what 2", -1, x.pins(1, 2));
        Check.due("what -1", -1, x.pins(1, -1));
        for (int far : FAR) {
            Check.due("pins(" + far + ", 0)", -1, x.pins(far, 0));
            Check.due("pins(0, " + far + ")", -1, x.pins(0, far));
        }
        SandwichTreaty y = of("aaaaaaaa", EIGHT, "slips 1;");
        Check.due("none for no DAYS", 0, y.pins(0, 0));
        Check.due("all for one", 8, y.pins(1, 0));
        Check.due("all, as bits", 255, y.pins(1, 1));
    }

    private static void pinsBesidesNow() {
        SandwichTreaty x = of("aaaaaaaa", EIGHT, "slips below>4;");
        Check.due("three", 224, x.pins(20, 1));
        x.pin(6);
        x.pin(0);
        Check.due("besides now", 160, x.pins(20, 1));
        Check.due("besides now, how many", 2, x.pins(20, 0));
        x.pull(0);
        Check.due("of the STACK", 128, x.pins(20, 1));
        // The one that comes OUT first holds the other one: with it PINNED nobody else slips.
        SandwichTreaty y = ofOne("below=0 and (above<1 or day=2)", 1, 1);
        Check.due("the lower one", 1, y.pins(20, 1));
    }

    // ---- promise 25

    private static void picksEnds() {
        SandwichTreaty x = of("aaaaaaaa", EIGHT, "slips below=7;pick 8;");
        Check.due("the uppermost alone", 1, x.picks());
        Check.dueLies("at the top fewer", x, 7);
        SandwichTreaty y = of("aaaaaaaa", EIGHT, "slips below=0 or below=7;pick 8;");
        Check.due("one pick of 8", 1, y.picks());
        Check.dueLies("one pick of 8", y, 0);
        SandwichTreaty z = of("aaaaaaaa", EIGHT, "slips below=0 or below=7;pick 7;");
        Check.due("two picks of 7", 2, z.picks());
        Check.dueLies("two picks of 7", z, 0, 7);
        SandwichTreaty w = of("aaaaaaaa", EIGHT, "slips 1;pick 1;");
        Check.due("eight picks", 8, w.picks());
        Check.dueLies("eight picks", w, 0, 1, 2, 3, 4, 5, 6, 7);
        for (int layer = 0; layer < 8; layer++) {
            w.pin(layer);
        }
        Check.due("no SHAKY one", 0, w.picks());
        Check.dueLies("no SHAKY one", w);
    }

    private static void picksOfEachLength() {
        for (int pick = 1; pick <= 8; pick++) {
            SandwichTreaty x = of("aaaaaaaa", EIGHT, "slips below>0;pick " + pick + ";");
            int count = (7 + pick - 1) / pick;
            Check.due("picks of " + pick, count, x.picks());
            for (int i = 0; i < count; i++) {
                Check.due("pick " + i + " of " + pick, 1 + i * pick, x.lies(i));
            }
        }
        SandwichTreaty x = of("aaaaaaaa", EIGHT, "slips below=1 or below=3 or below=4 or below=6;");
        Check.due("picks of 3, untold", 2, x.picks());
        Check.dueLies("places, not LAYERS", x, 1, 4);
        x.move(0, 7);
        Check.due("by places", 2, x.picks());
        Check.dueLies("by places", x, 1, 4);
    }

    // ---- promise 26

    private static void cutEnds() {
        SandwichTreaty x = ofOne("0", 3, 5);
        Check.due("of two", 1, x.cut(0));
        Check.due("by 2", 2, x.cut(1));
        Check.due("what 2", -1, x.cut(2));
        Check.due("what -1", -1, x.cut(-1));
        for (int far : FAR) {
            Check.due("cut(" + far + ")", -1, x.cut(far));
        }
        x.pull(1);
        Check.due("of one", -1, x.cut(0));
        Check.due("of one, by", -1, x.cut(1));
        Check.due("the last place", 7, of("aaaaaaaa", new int[] {1, 1, 1, 1, 1, 1, 1, 20}, "").cut(0));
        Check.due("the first place", 1, of("aaaaaaaa", new int[] {20, 1, 1, 1, 1, 1, 1, 1}, "").cut(0));
        Check.due("the most", 19, ofOne("0", 1, 20).cut(1));
        Check.due("the most, the other way", 19, ofOne("0", 20, 1).cut(1));
    }

    private static void cutOfLikeOnes() {
        SandwichTreaty x = ofOne("0", 3, 2, 3);
        Check.due("the lowest", 1, x.cut(0));
        Check.due("by 2", 2, x.cut(1));
        SandwichTreaty y = ofOne("0", 1, 2, 2, 1, 4);
        Check.due("even", 3, y.cut(0));
        Check.due("by 0", 0, y.cut(1));
    }

    // ---- promise 27

    private static void changeDays() {
        // The thicker one stays if it lies lowest; on the 20th DAY.
        SandwichTreaty x = ofOne("day=19 and thick=2 and below>0", 1, 2);
        Check.due("change(0, 0)", -1, x.change(0, 0));
        Check.due("change(19, 0)", -1, x.change(19, 0));
        Check.due("change(20, 0)", 0, x.change(20, 0));
        Check.due("change(20, 1)", 1, x.change(20, 1));
        Check.due("change(20, 2)", 2, x.change(20, 2));
        Check.due("change(21, 0)", -1, x.change(21, 0));
        Check.due("change(-1, 0)", -1, x.change(-1, 0));
        Check.due("what 3", -1, x.change(20, 3));
        Check.due("what -1", -1, x.change(20, -1));
        for (int far : FAR) {
            Check.due("change(" + far + ", 0)", -1, x.change(far, 0));
            Check.due("change(20, " + far + ")", -1, x.change(20, far));
        }
        x.pull(0);
        Check.due("of one", -1, x.change(20, 0));
    }

    private static void changeOnlyIfMore() {
        Check.due("all stay as it is", -1, ofOne("0", 1, 2).change(5, 0));
        Check.due("as many, not more", -1, ofOne("below=0", 1, 2).change(1, 2));
        Check.due("none can stay", -1, ofOne("1", 1, 2).change(1, 0));
        SandwichTreaty x = ofOne("thick=2 and below>0", 1, 2);
        Check.due("one more", 2, x.change(1, 2));
        Check.due("now the first", 1, x.at(1));
        x.move(1, 0);
        Check.due("no more behind a move", -1, x.change(1, 2));
    }

    private static void changeOfLikeOnes() {
        // LAYER 3 must come lowest: 0 lies there.
        SandwichTreaty x = ofOne("thick=4 and below>0", 1, 2, 3, 4);
        Check.due("the lesser number", 0, x.change(1, 0));
        Check.due("the other one", 3, x.change(1, 1));
        // It may not be uppermost: 0, 1 and 2 are like, 0 is first.
        SandwichTreaty y = ofOne("thick=4 and above=0", 1, 2, 3, 4);
        Check.due("the first of like ones", 0, y.change(1, 0));
        Check.due("the other one", 3, y.change(1, 1));
        y.move(3, 0);
        y.move(0, 3);
        Check.due("none is needed", -1, y.change(1, 0));
        // The uppermost has the least number: the other one is the least that can be.
        SandwichTreaty z = ofOne("thick=4 and above=0", 4, 2, 3, 1);
        z.move(0, 3);
        Check.due("the first one by its number", 0, z.change(1, 0));
        Check.due("then the other one", 1, z.change(1, 1));
        Check.due("how many", 4, z.change(1, 2));
    }

    private static void changeWithPins() {
        SandwichTreaty x = ofOne("below=2", 1, 1, 1);
        Check.due("one slips anyhow", -1, x.change(1, 0));
        x.pin(1);
        Check.due("the PINNED one goes there", 1, x.change(1, 0));
        Check.due("with the uppermost", 2, x.change(1, 1));
        Check.due("all are in it", 3, x.change(1, 2));
        x.pull(2);
        Check.due("of the STACK alone", -1, x.change(1, 0));
    }

    // ---- promises 28 to 30

    private static void pillarsEnds() {
        // Without one that is below, the others lie lower: those above place 0 slip by below = 0 alone.
        SandwichTreaty x = ofOne("below=0", 1, 1, 1);
        Check.due("the lowest is SHAKY now, the next one would be", 1, x.pillars());
        x.pin(0);
        Check.due("a PINNED one may be one", 1, x.pillars());
        x.pin(1);
        Check.due("another one that is PINNED is not SHAKY", 0, x.pillars());
        Check.due("one alone", 0, ofOne("1", 1).pillars());
        Check.due("SHAKY already", 0, ofOne("1", 1, 1).pillars());
        Check.due("none is", 0, ofOne("0", 1, 1).pillars());
        // Itself would not count: it is OUT then.
        SandwichTreaty y = ofOne("above=0 and below=0", 1, 1);
        Check.due("each holds the other one", 3, y.pillars());
        y.pull(0);
        Check.due("one alone is SHAKY", 2, y.shaky());
        Check.due("but no PILLAR", 0, y.pillars());
    }

    private static void betweenEnds() {
        SandwichTreaty x = of("abc", new int[] {1, 1, 1}, "");
        Check.due("between(0, 2)", 2, x.between(0, 2));
        Check.due("both are one", -1, x.between(1, 1));
        Check.due("the other one can't be", -1, x.between(0, 3));
        Check.due("the one can't be", -1, x.between(3, 0));
        Check.due("below 0", -1, x.between(0, -1));
        Check.due("the one below 0", -1, x.between(-1, 0));
        Check.due("both can't be", -1, x.between(-1, 3));
        for (int far : FAR) {
            Check.due("between(" + far + ", 0)", -1, x.between(far, 0));
            Check.due("between(0, " + far + ")", -1, x.between(0, far));
            Check.due("between both far", -1, x.between(far, far));
        }
    }

    private static void betweenWays() {
        SandwichTreaty x = of("abc", new int[] {1, 1, 1}, "");
        Check.due("the one below", 2, x.between(0, 2));
        Check.due("the other way", 2, x.between(2, 0));
        Check.due("not between", 0, x.between(0, 1));
        Check.due("not between, above", 0, x.between(1, 2));
        SandwichTreaty y = of("abba", new int[] {1, 1, 1, 1}, "");
        Check.due("others than these", 0, y.between(0, 1));
        SandwichTreaty z = of("accb", new int[] {1, 1, 1, 1}, "");
        Check.due("somewhere below, somewhere above", 4, z.between(0, 1));
        z.pull(1);
        Check.due("one is enough", 4, z.between(0, 1));
        z.pull(2);
        Check.due("none with a LAYER in the STACK", 0, z.between(0, 1));
        SandwichTreaty w = of("aca", new int[] {1, 1, 1}, "");
        Check.due("two of one POWER are not two POWERS", 0, w.between(0, 1));
    }

    private static void wedgedEnds() {
        SandwichTreaty x = of("abaca", new int[] {1, 1, 1, 1, 1}, "");
        Check.due("wedged(0)", 10, x.wedged(0));
        Check.due("wedged(1)", 0, x.wedged(1));
        Check.due("wedged(2), the last POWER", 0, x.wedged(2));
        Check.due("wedged(3)", -1, x.wedged(3));
        Check.due("wedged(-1)", -1, x.wedged(-1));
        for (int far : FAR) {
            Check.due("wedged(" + far + ")", -1, x.wedged(far));
        }
        Check.due("its own are not", 0, of("aaa", new int[] {1, 1, 1}, "").wedged(0));
        Check.due("none next above", 0, of("ab", new int[] {1, 1}, "").wedged(0));
        Check.due("none next below", 0, of("ba", new int[] {1, 1}, "").wedged(0));
        Check.due("next, not somewhere", 0, of("abba", new int[] {1, 1, 1, 1}, "").wedged(0));
        Check.due("one of it on one side alone", 0, of("abc", new int[] {1, 1, 1}, "").wedged(0));
        Check.due("the ends of eight", 66, of("abaaaaba", EIGHT, "").wedged(0));
    }

    // ---- promise 31

    private static void gameArguments() {
        SandwichTreaty x = of("ab", new int[] {3, 2}, "slips 0;");
        for (int turns = 1; turns <= 4; turns++) {
            Check.due("game of " + turns, 1, x.game(0, 1, turns, 0));
            Check.due("game of " + turns + ", who", -1, x.game(0, 1, turns, 1));
        }
        Check.due("no turns", -1000, x.game(0, 1, 0, 0));
        Check.due("five turns", -1000, x.game(0, 1, 5, 0));
        Check.due("no turns, who", -1000, x.game(0, 1, 0, 1));
        Check.due("five turns, who", -1000, x.game(0, 1, 5, 1));
        Check.due("what 2", -1000, x.game(0, 1, 1, 2));
        Check.due("what -1", -1000, x.game(0, 1, 1, -1));
        Check.due("both are one", -1000, x.game(1, 1, 1, 0));
        Check.due("the one can't be", -1000, x.game(3, 1, 1, 0));
        Check.due("the other one can't be", -1000, x.game(1, 3, 1, 0));
        Check.due("the last POWER, without LAYERS", 2, x.game(1, 2, 1, 0));
        Check.due("the last POWER first", -3, x.game(2, 0, 1, 0));
        for (int far : FAR) {
            Check.due("game(" + far + ", ..)", -1000, x.game(far, 1, 1, 0));
            Check.due("game(0, " + far + ", ..)", -1000, x.game(0, far, 1, 0));
            Check.due("game(0, 1, " + far + ", ..)", -1000, x.game(0, 1, far, 0));
            Check.due("game(0, 1, 1, " + far + ")", -1000, x.game(0, 1, 1, far));
        }
    }

    private static SandwichTreaty allOut(SandwichTreaty x) {
        for (int layer = 0; layer < x.about(0); layer++) {
            x.pull(layer);
        }
        return x;
    }

    private static void gameTurns() {
        // Nothing slips: each lays its thickest ones, in turn.
        SandwichTreaty x = allOut(of("aaabbb", new int[] {4, 9, 5, 3, 8, 6}, "slips 0;"));
        int[] want = {9, 1, 6, 0};
        for (int turns = 1; turns <= 4; turns++) {
            Check.due("more of " + turns, want[turns - 1], x.game(0, 1, turns, 0));
        }
        Check.due("who first, of one", 1, x.game(0, 1, 1, 1));
        // With two turns of its own the order is like, and the least number is first.
        Check.due("who first, of three", 1, x.game(0, 1, 3, 1));
        Check.due("the other one begins", 0, x.game(1, 0, 4, 0));
        SandwichTreaty y = allOut(of("a", new int[] {7}, "slips 0;"));
        Check.due("no more than it has", 7, y.game(0, 1, 4, 0));
        Check.due("when is like: none first", -1, y.game(0, 1, 3, 1));
        Check.due("on its only turn", 0, y.game(0, 1, 1, 1));
        Check.due("on its only turn of two", 0, y.game(0, 1, 2, 1));
    }

    private static void gameOfLikeTurns() {
        SandwichTreaty x = allOut(of("aab", new int[] {2, 2, 5}, "slips 0;"));
        Check.due("the least number", 0, x.game(0, 1, 1, 1));
        Check.due("both are laid in three", 0, x.game(0, 1, 3, 1));
        SandwichTreaty y = allOut(of("aab", new int[] {2, 2, 5}, "slips 1;"));
        Check.due("none is first", -1, y.game(0, 1, 1, 1));
        Check.due("none stands", 0, y.game(0, 1, 4, 0));
        // The thicker one is better, whatever its number.
        SandwichTreaty z = allOut(of("aab", new int[] {2, 3, 5}, "slips 0;"));
        Check.due("the better one", 1, z.game(0, 1, 1, 1));
    }

    private static void gameDay() {
        // Behind the last turn one DAY, by the DAMP and the day of now.
        SandwichTreaty x = of("ab", new int[] {3, 2}, "slips day>0;");
        Check.due("day 0", 1, x.game(0, 1, 4, 0));
        x.day();
        Check.due("day 1: all come OUT", 0, x.game(0, 1, 4, 0));
        x.pin(0);
        Check.due("a PINNED one stays", 3, x.game(0, 1, 4, 0));
        x.pull(0);
        Check.due("laid on it is not PINNED", 0, x.game(0, 1, 1, 0));
        // What is below 0 is fine: the first one has less.
        Check.due("less", -2, of("ab", new int[] {3, 5}, "slips 0;").game(0, 1, 1, 0));
        // To press the other one OUT is worth more than to lay none.
        SandwichTreaty y = of("ba", new int[] {9, 2}, "slips above>1 and thick=9;");
        y.pull(1);
        Check.due("by laying on", 2, y.game(0, 1, 1, 0));
        Check.due("who", 1, y.game(0, 1, 1, 1));
    }

    // ---- promises 36 to 39

    private static void lawDamps() {
        SandwichTreaty x = ofOne("damp>98 or damp=0 and below", 1, 1, 1);
        Check.due("law(0)", 2, x.law(0));
        Check.due("law(1)", 0, x.law(1));
        Check.due("law(98)", 0, x.law(98));
        Check.due("law(99)", 3, x.law(99));
        Check.due("law(100)", -1, x.law(100));
        Check.due("law(-1)", -1, x.law(-1));
        for (int far : FAR) {
            Check.due("law(" + far + ")", -1, x.law(far));
        }
        x.pin(1);
        Check.due("not a PINNED one", 2, x.law(99));
        Check.due("the DAMP stays", 0, x.about(4));
    }

    private static void soaksDamps() {
        Check.due("by 0", 0, ofOne("1", 1).soaks(0));
        Check.due("by 1", 1, ofOne("damp", 1).soaks(0));
        Check.due("by 98", 98, ofOne("damp>97", 1).soaks(0));
        Check.due("by 99", 99, ofOne("damp>98", 1).soaks(0));
        Check.due("by none", -1, ofOne("damp>99", 1).soaks(0));
        Check.due("by none, SLIP 0", -1, ofOne("0", 1).soaks(0));
        Check.due("the least of some", 3, ofOne("damp%5=3", 1).soaks(0));
        SandwichTreaty x = of("a", new int[] {1}, "slips damp>4;damps 9;");
        x.day();
        Check.due("not by what the DAMP is now", 5, x.soaks(0));
        x.pin(0);
        Check.due("PINNED or not", 5, x.soaks(0));
        x.pull(0);
        Check.due("OUT", -1, x.soaks(0));
        Check.due("none such", -1, x.soaks(1));
        Check.due("none such below", -1, x.soaks(-1));
        for (int far : FAR) {
            Check.due("soaks(" + far + ")", -1, x.soaks(far));
        }
    }

    private static void dampDays() {
        SandwichTreaty x = Check.told("damps 1;");
        Check.due("damp(0)", 0, x.damp(0));
        Check.due("damp(1)", 1, x.damp(1));
        Check.due("damp(60)", 60, x.damp(60));
        Check.due("damp(61)", -1, x.damp(61));
        Check.due("damp(-1)", -1, x.damp(-1));
        for (int far : FAR) {
            Check.due("damp(" + far + ")", -1, x.damp(far));
        }
        x.day();
        Check.due("from now", 61, x.damp(60));
        Check.due("none ahead", 1, x.damp(0));
        SandwichTreaty y = Check.told("damps 30;");
        Check.due("90", 90, y.damp(3));
        Check.due("99 at most", 99, y.damp(4));
        SandwichTreaty z = Check.told("damps 30;draw 37;sun 1;");
        int[] want = {0, 30, 60, 90, 99, 49, 79, 99};
        for (int n = 0; n < want.length; n++) {
            Check.due("SUN as the SEED tells, " + n, want[n], z.damp(n));
        }
    }

    private static void oddsDays() {
        SandwichTreaty x = Check.told("sun 99;");
        int lower = 1;
        for (int n = 0; n <= 4; n++) {
            Check.due("odds(" + n + ", 0)", 1, x.odds(n, 0));
            Check.due("odds(" + n + ", 1)", lower, x.odds(n, 1));
            lower *= 100;
        }
        for (int part = 0; part < 2; part++) {
            Check.due("odds(5, " + part + ")", -1, x.odds(5, part));
            Check.due("odds(-1, " + part + ")", -1, x.odds(-1, part));
        }
        Check.due("part 2", -1, x.odds(1, 2));
        Check.due("part -1", -1, x.odds(1, -1));
        for (int far : FAR) {
            Check.due("odds(" + far + ", 0)", -1, x.odds(far, 0));
            Check.due("odds(1, " + far + ")", -1, x.odds(1, far));
        }
        x.day();
        Check.due("whatever the SEED is", 10000, x.odds(2, 1));
    }

    private static void oddsLowestTerms() {
        for (int sun = 0; sun <= 100; sun++) {
            SandwichTreaty x = Check.told("sun " + sun + ";");
            long upper = 1;
            long lower = 1;
            for (int n = 0; n <= 4; n++) {
                long common = common(upper, lower);
                Check.due("sun " + sun + ", odds(" + n + ", 0)", upper / common, x.odds(n, 0));
                Check.due("sun " + sun + ", odds(" + n + ", 1)", lower / common, x.odds(n, 1));
                upper *= 100 - sun;
                lower *= 100;
            }
        }
        SandwichTreaty x = Check.told("sun 100;");
        Check.due("0 of 1, upper", 0, x.odds(1, 0));
        Check.due("0 of 1, lower", 1, x.odds(1, 1));
        Check.due("0 of 1 of four, lower", 1, x.odds(4, 1));
        Check.due("1 of 1 for no DAYS, upper", 1, x.odds(0, 0));
        Check.due("1 of 1 for no DAYS, lower", 1, x.odds(0, 1));
    }

    private static long common(long a, long b) {
        return b == 0 ? a : common(b, a % b);
    }

    // ---- promise 40

    private static void liesEnds() {
        SandwichTreaty x = of("aaaaaaaa", EIGHT, "slips 0;");
        Check.due("nothing at first", -1, x.lies(0));
        x.order();
        Check.due("the last", 7, x.lies(7));
        Check.due("one behind it", -1, x.lies(8));
        Check.due("one ahead", -1, x.lies(-1));
        for (int far : FAR) {
            Check.due("lies(" + far + ")", -1, x.lies(far));
        }
        x.pull(3);
        Check.due("eight still", 8, x.about(13));
        x.order();
        Check.dueLies("seven", x, 0, 1, 2, 4, 5, 6, 7);
    }

    private static void liesTillTheNext() {
        SandwichTreaty x = ofOne("below", 1, 1, 1);
        x.order();
        Check.dueLies("an order", x, 0, 1, 2);
        x.day();
        x.undo();
        x.stay(1);
        x.pins(3, 1);
        x.image(0);
        x.back(0);
        x.tasted(0, 0, true);
        Check.dueLies("it lies there", x, 0, 1, 2);
        x.picks();
        Check.dueLies("picks instead of it", x, 1);
        Check.tell(x, "$");
        Check.dueLies("behind a FAULT", x, 1);
        x.table();
        Check.dueLies("behind a table", x);
    }

    private static SandwichTreaty lived() {
        SandwichTreaty x = of("abcab", new int[] {3, 2, 4, 1, 5}, "slips wet*above/9+damp+foes-thick;damps 2;sun 40;draw 21;pick 2;");
        x.image(0);
        x.pin(1);
        x.day();
        x.pull(3);
        x.day();
        x.undo();
        x.tasted(3, 1, true);
        x.picks();
        return x;
    }

    /** All calls of "==== 3." leave all as it is, but for what lies there. */
    private static void noneIsDone() {
        SandwichTreaty x = lived();
        SandwichTreaty y = lived();
        x.shaky();
        for (int n = -1; n < 62; n++) {
            x.stands(n, 0);
            x.stands(n, 1);
            x.damp(n);
            x.law(n);
            x.pins(n, 1);
            x.change(n, 0);
            x.odds(n, 0);
            x.game(0, 1, n, 1);
            x.stay(n);
            x.cut(n);
            x.lasts(n);
            x.soaks(n);
            x.wedged(n);
            x.between(n, 0);
        }
        x.holds();
        x.pillars();
        x.fits(3);
        x.sure(0, 3);
        x.ask(3, 0, 3);
        Check.dueLike("nothing is done", x, y);
    }
}
