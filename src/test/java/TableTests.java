/** Promises 1 to 5: a new object, the tape, the table, its faults. */
public final class TableTests {
    private TableTests() { }

    public static void main(String[] args) {
        newObject();
        feed();
        end();
        tableBegins();
        tableFaultStays();
        untoldValues();
        limits();
        tokens();
        faults();
        units();
        faultsByPrefix();
        Check.finish("TableTests");
    }

    private static void newObject() {
        SandwichTreaty x = new SandwichTreaty();
        int[] want = {0, 0, 0, 0, 0, 0, 0, 0, 0, 0, 0, 0, 0, 0, 1, 3, -1};
        for (int i = 0; i < want.length; i++) {
            Check.due("new: about(" + i + ")", want[i], x.about(i));
        }
        Check.due("new: about(-1)", -1, x.about(-1));
        Check.due("new: fault(0)", 0, x.fault(0));
        Check.due("new: fault(1)", -1, x.fault(1));
        Check.due("new: undo", false, x.undo());
        Check.due("new: redo", false, x.redo());
        Check.due("new: back(0)", -1, x.back(0));
        Check.dueStack("new", x);
        Check.dueLies("new", x);
        Check.due("new: NONE", -1, SandwichTreaty.NONE);
    }

    private static void feed() {
        SandwichTreaty x = new SandwichTreaty();
        for (int i = 1; i <= 80; i++) {
            Check.due("feed " + i, 20 * i, x.feed(-1, 0, 1, 2, 3));
        }
        Check.due("feed beyond 1600", -1, x.feed(0, 0, 0, 0, 0));
        Check.due("about(11) when full", 1600, x.about(11));
        Check.due("end(1581)", 1581, x.end(1581));
        Check.due("feed with room for 19", -1, x.feed(0, 0, 0, 0, 0));
        Check.due("about(11)", 1581, x.about(11));
        Check.due("end(1580)", 1580, x.end(1580));
        Check.due("feed with room for 20", 1600, x.feed(0, 0, 0, 0, 0));
        // 'pick', ' 7; ', the rest blank: the highest byte comes first.
        SandwichTreaty y = new SandwichTreaty();
        y.feed(0x7069636B, 0x20373B20, 0x20202020, 0x0A0A0A0A, 0x20202020);
        Check.due("table of a fed pick", 0, y.table());
        Check.due("about(15)", 7, y.about(15));
    }

    private static void end() {
        SandwichTreaty x = new SandwichTreaty();
        Check.due("end(0) of nothing", 0, x.end(0));
        Check.due("end(1) of nothing", -1, x.end(1));
        Check.due("end(-1) of nothing", -1, x.end(-1));
        x.feed(0, 0, 0, 0, 0);
        Check.due("end(21)", -1, x.end(21));
        Check.due("end(-1)", -1, x.end(-1));
        Check.due("end(MIN)", -1, x.end(Integer.MIN_VALUE));
        Check.due("end(MAX)", -1, x.end(Integer.MAX_VALUE));
        Check.due("about(11)", 20, x.about(11));
        Check.due("end(20)", 20, x.end(20));
        Check.due("end(7)", 7, x.end(7));
        Check.due("end(8)", -1, x.end(8));
        Check.due("feed behind end", 27, x.feed(0, 0, 0, 0, 0));
    }

    private static final String TWO = "power a; layer p of a thick 4 wet 2; layer q of a thick 1; draw 5; damps 2; pick 4;";

    private static void tableBegins() {
        SandwichTreaty x = Check.told(TWO);
        x.tasted(0, 0, true);
        x.later(7);
        x.order();
        x.pin(0);
        x.day();
        x.image(1);
        Check.due("table()", 1, Check.tell(x, "power b;layer z of b thick 3;draw 12;"));
        int[] want = {1, 1, 1, 0, 0, 0, 12, 0, 0, 0, 7, 0, 0, 0, 1, 3};
        for (int i = 0; i < want.length; i++) {
            Check.due("behind a table: about(" + i + ")", want[i], x.about(i));
        }
        Check.due("behind a table: back(1)", -1, x.back(1));
        Check.due("behind a table: undo", false, x.undo());
        Check.due("behind a table: redo", false, x.redo());
        Check.due("behind a table: untell", false, x.untell(0));
        Check.due("behind a table: fits", 31, x.fits(100));
        Check.dueStack("behind a table", x, 0);
        Check.due("an empty text", 0, x.table());
        Check.due("an empty text: about(1)", 0, x.about(1));
        Check.due("an empty text: about(6)", 0, x.about(6));
    }

    private static void tableFaultStays() {
        SandwichTreaty x = Check.told(TWO);
        x.tasted(0, 0, true);
        x.image(0);
        x.pin(1);
        x.order();
        x.day();
        x.undo();
        int[] ahead = new int[16];
        for (int i = 0; i < 16; i++) {
            ahead[i] = x.about(i);
        }
        Check.due("a faulty table", -1, Check.tell(x, "power c; power d; pick 8; slips 1 1;"));
        Check.due("its fault", 2, x.fault(0));
        Check.due("its place", 34, x.fault(1));
        Check.due("another what", -1, x.fault(2));
        Check.due("another what below", -1, x.fault(-1));
        for (int i = 0; i < 16; i++) {
            Check.due("behind a fault: about(" + i + ")", ahead[i], x.about(i));
        }
        Check.due("behind a fault: slip stays", -4, x.slip(0));
        Check.dueLies("behind a fault", x, 0, 1);
        Check.due("behind a fault: redo", true, x.redo());
        Check.due("behind a fault: back", 0, x.back(0));
        Check.due("a good table", 2, Check.tell(x, TWO));
        Check.due("no fault", 0, x.fault(0));
        Check.due("no place", -1, x.fault(1));
    }

    private static void untoldValues() {
        SandwichTreaty x = Check.told("power a; layer p of a thick 4; layer q of a thick 18;");
        Check.due("wet untold", 0, x.layer(0, 2));
        Check.due("damps untold", 1, x.about(14));
        Check.due("pick untold", 3, x.about(15));
        Check.due("draw untold", 0, x.about(6));
        Check.due("sun untold", 1, x.odds(3, 0));
        Check.due("units untold", 0, x.about(12));
        Check.due("slips untold", -4, x.slip(0));
        SandwichTreaty y = Check.told("power a;layer p of a thick 2 wet 4;layer q of a thick 20;");
        Check.due("slips untold, wet * above / 9 - thick", 4 * 20 / 9 - 2, y.slip(0));
        // A told formula of one table is not that of the next.
        Check.tell(y, "power a;layer p of a thick 2;slips 7;");
        Check.due("slips told", 7, y.slip(0));
        Check.due("units told", 1, y.about(12));
        Check.tell(y, "power a;layer p of a thick 2;");
        Check.due("slips untold again", -2, y.slip(0));
        Check.due("units untold again", 0, y.about(12));
    }

    private static void limits() {
        String powers = "power a;power b;power c;power d;";
        Check.dueTable(powers, 0);
        Check.dueFault(powers + "power e;", 2, 32);
        Check.dueFault(powers + "power a;", 2, 32);
        StringBuilder layers = new StringBuilder("power a;");
        for (char c = 'a'; c < 'i'; c++) {
            layers.append("layer ").append(c).append(" of a thick 20 wet 20;");
        }
        Check.dueTable(layers.toString(), 8);
        Check.dueFault(layers + "layer i of a thick 1;", 2, layers.length());
        Check.dueTable("power a;layer l of a thick 1 wet 0;damps 0;pick 1;sun 0;draw 0;", 1);
        Check.dueTable("power a;layer l of a thick 20 wet 20;damps 30;pick 8;sun 100;draw 999;", 1);
        Check.dueTable("power a;layer l of a thick 0020 wet 0000;damps 0030;pick 08;sun 0100;draw 0999;", 1);
        Check.dueFault("power a;layer l of a thick 0;", 4, 27);
        Check.dueFault("power a;layer l of a thick 21;", 4, 27);
        Check.dueFault("power a;layer l of a thick 9999;", 4, 27);
        Check.dueFault("power a;layer l of a thick 1 wet 21;", 4, 33);
        Check.dueFault("damps 31;", 4, 6);
        Check.dueFault("pick 0;", 4, 5);
        Check.dueFault("pick 9;", 4, 5);
        Check.dueFault("sun 101;", 4, 4);
        Check.dueFault("draw 1000;", 4, 5);
        for (String line : new String[] {"slips 1;", "damps 1;", "pick 1;", "sun 1;", "draw 1;"}) {
            Check.dueTable(line, 0);
            Check.dueFault(line + line, 2, line.length());
        }
        Check.dueTable("power pow;layer pow of pow thick 1;", 1);
        Check.dueFault("power a;power b;power a;", 3, 22);
        Check.dueFault("power a;layer l of a thick 1;layer m of a thick 1;layer l of a thick 1;", 3, 56);
        Check.dueFault("layer l of a thick 1;power a;", 5, 11);
        Check.dueFault("power b;layer l of l thick 1;", 5, 19);
    }

    private static void tokens() {
        Check.dueTable("", 0);
        Check.dueTable(" \n \n", 0);
        Check.dueTable("power abcdefgh ;", 0);
        Check.dueFault("power abcdefghi;", 1, 6);
        Check.dueTable("power\na\n;layer\nl\nof\na\nthick\n1\n;", 1);
        Check.dueTable("power a;layer b of a thick 1 wet 1;slips(thick)<(1)and(not 1);", 1);
        Check.dueTable("power a;layer b of a thick1 wet2;", 1);
        Check.dueTable("slips 9999;", 0);
        Check.dueFault("slips 10000;", 1, 6);
        Check.dueFault("slips 00001;", 1, 6);
        Check.dueFault("slips 1or 2;", 1, 6);
        Check.dueFault("power a;layer l of a thick 1wet 2;", 1, 27);
        Check.dueFault("power a\t;", 1, 7);
        Check.dueFault("power A;", 1, 6);
        Check.dueFault("power a,", 1, 7);
        Check.dueFault("power " + (char) 228 + ";", 1, 6);
        Check.dueFault("power a" + (char) 0 + ";", 1, 7);
        Check.dueFault("power a" + (char) 13 + ";", 1, 7);
        Check.dueFault("slips 1<=2;", 2, 8);
        Check.dueFault("slips 1 & 2;", 1, 8);
        Check.dueFault("powera;", 2, 0);
        Check.dueFault("poweraaaa;", 1, 0);
        Check.dueFault("power a1;", 2, 7);
    }

    private static void faults() {
        Check.dueFault(";", 2, 0);
        Check.dueFault("power", 2, 5);
        Check.dueFault("power ", 2, 6);
        Check.dueFault("power a", 2, 7);
        Check.dueFault("power a \n ", 2, 10);
        Check.dueFault("power ;", 2, 6);
        Check.dueFault("power 1;", 2, 6);
        Check.dueFault("power a b;", 2, 8);
        Check.dueFault("power a;;", 2, 8);
        for (String word : new String[] {"power", "layer", "of", "thick", "wet", "slips", "damps", "pick", "sun",
            "draw", "or", "and", "not", "above", "below", "damp", "foes", "day"}) {
            Check.dueFault("power " + word + ";", 2, 6);
            Check.dueFault("power a;layer " + word + " of a thick 1;", 2, 14);
            Check.dueFault("power a;layer b of " + word + " thick 1;", 2, 19);
        }
        for (String word : new String[] {"e", "both", "one", "sum", "term", "unit", "line", "table", "name", "n"}) {
            Check.dueTable("power " + word + ";", 0);
        }
        for (String word : new String[] {"of", "thick", "wet", "or", "and", "not", "above", "below", "damp", "foes",
            "day", "a", "1", "(", "<"}) {
            Check.dueFault("power a;" + word, 2, 8);
        }
        Check.dueFault("power a;layer of a thick 1;", 2, 14);
        Check.dueFault("power a;layer b a thick 1;", 2, 16);
        Check.dueFault("power a;layer b of a 1;", 2, 21);
        Check.dueFault("power a;layer b of a thick;", 2, 26);
        Check.dueFault("power a;layer b of a thick b;", 2, 27);
        Check.dueFault("power a;layer b of a thick 1 wet;", 2, 32);
        Check.dueFault("power a;layer b of a thick 1 wet wet;", 2, 33);
        Check.dueFault("power a;layer b of a thick 1 2;", 2, 29);
        Check.dueFault("power a;layer b of a wet 1 thick 1;", 2, 21);
        Check.dueFault("power a;layer b of a thick 1 wet 1 wet 1;", 2, 35);
        Check.dueFault("damps;", 2, 5);
        Check.dueFault("damps x;", 2, 6);
        Check.dueFault("damps 1 1;", 2, 8);
        Check.dueFault("damps - 1;", 2, 6);
        Check.dueFault("damp 1;", 2, 0);
        Check.dueFault("slips;", 2, 5);
        Check.dueFault("slips", 2, 5);
        Check.dueFault("slips x;", 2, 6);
        Check.dueFault("slips 1 +;", 2, 9);
        Check.dueFault("slips + 1;", 2, 6);
        Check.dueFault("slips 1 < 2 < 3;", 2, 12);
        Check.dueFault("slips 1 = not 2;", 2, 10);
        Check.dueFault("slips 1 + not 2;", 2, 10);
        Check.dueFault("slips 1 * not 2;", 2, 10);
        Check.dueFault("slips 1 not 2;", 2, 8);
        Check.dueFault("slips (1;", 2, 8);
        Check.dueFault("slips 1);", 2, 7);
        Check.dueFault("slips ();", 2, 7);
        Check.dueFault("slips 1 and;", 2, 11);
        Check.dueFault("slips or 1;", 2, 6);
        Check.dueFault("slips wet thick;", 2, 10);
        Check.dueFault("slips pick;", 2, 6);
        Check.dueTable("slips (1 < 2) < 3;", 0);
        Check.dueTable("slips (1 < 2) + (not 3) * (1 or 2 and 3);", 0);
        Check.dueTable("slips not 1 < 2 and not not 3 or not (4 - 5 % 6 / 7);", 0);
        // Two faults: the first by its place.
        Check.dueFault("power a;power a $", 3, 14);
        Check.dueFault("damps 31 $", 4, 6);
        Check.dueFault("damps $ 31", 1, 6);
        Check.dueFault("slips 1;slips $", 2, 8);
    }

    private static String many(String start, String part, int count, String end) {
        StringBuilder text = new StringBuilder(start);
        for (int i = 0; i < count; i++) {
            text.append(part);
        }
        return text.append(end).toString();
    }

    private static void units() {
        Check.dueTable(many("slips 1", "+1", 29, ";"), 0);
        Check.dueFault(many("slips 1", "+1", 30, ";"), 2, 66);
        Check.dueFault(many("slips 1", "+1", 29, "+(1);"), 2, 66);
        Check.dueFault(many("slips 1", "+1", 29, "+;"), 2, 66);
        Check.dueFault(many("slips 1", "+1", 29, "+$;"), 1, 66);
        // A unit ( e ) is one itself.
        Check.dueTable(many("slips 1", "+1", 27, "+(1);"), 0);
        Check.dueFault(many("slips 1", "+1", 28, "+(1);"), 2, 65);
        SandwichTreaty x = Check.told("slips (wet) and not (1);");
        Check.due("units with ( e )", 4, x.about(12));
        Check.dueTable(many("slips ", "(", 7, "1") + many("", ")", 7, ";"), 0);
        Check.dueFault(many("slips ", "(", 8, "1") + many("", ")", 8, ";"), 2, 13);
        Check.dueTable(many("slips ", "not ", 7, "1;"), 0);
        Check.dueFault(many("slips ", "not ", 8, "1;"), 2, 34);
        Check.dueTable("slips not not not ((((1))));", 0);
        Check.dueFault("slips not not not (((((1)))));", 2, 22);
        Check.dueFault("slips ((((((( not 1)))))));", 2, 14);
        Check.dueTable("slips (((((( not 1))))));", 0);
        Check.dueTable("slips not not not not not not not 1 and not not not not not not not 1 or (((((((1)))))));", 0);
        asManyNotsAsCanBe();
    }

    private static void asManyNotsAsCanBe() {
        String one = many("", "not ", 7, "0");
        String none = many("", "not ", 7, "1");
        for (int place = 0; place <= 30; place++) {
            StringBuilder text = new StringBuilder("power a;layer l of a thick 1;slips ");
            for (int i = 0; i < 30; i++) {
                text.append(i == 0 ? "" : " and ").append(i == place ? none : one);
            }
            SandwichTreaty x = Check.told(text.append(";").toString());
            Check.due("30 units behind 7 nots each", 30, x.about(12));
            Check.due("their worth with a 0 at " + place, place < 30 ? 0 : 1, x.slip(0));
        }
    }

    /** Whatever comes behind a faulty token, the fault is the same. */
    private static void faultsByPrefix() {
        String text = "power a;power b;layer l of a thick 3 wet 2;layer m of b thick 4;slips not (wet+1)*2<above or day;sun 9;";
        for (int cut = 0; cut < text.length(); cut++) {
            String start = text.substring(0, cut);
            SandwichTreaty x = new SandwichTreaty();
            int layers = Check.tell(x, start + "$");
            Check.due("a $ at " + cut, -1, layers);
            Check.due("fault by a $ at " + cut, true, x.fault(1) <= cut);
            SandwichTreaty y = new SandwichTreaty();
            Check.tell(y, start + "$ power power 1 ; ((");
            Check.due("fault with more behind " + cut, x.fault(0), y.fault(0));
            Check.due("place with more behind " + cut, x.fault(1), y.fault(1));
        }
    }
}
