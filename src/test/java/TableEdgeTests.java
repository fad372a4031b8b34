/** The edges of the TABLE ("Terms") and of promises 1 to 5: each limit at its last value and at the first beyond it. */
public final class TableEdgeTests {
    private static final String[] OWN_WORDS = {"power", "layer", "of", "thick", "wet", "slips", "damps", "pick", "sun", "draw",
        "or", "and", "not", "above", "below", "damp", "foes", "day"};
    private static final String SIGNS = ";()<>=+-*/%";

    private TableEdgeTests() { }

    public static void main(String[] args) {
        eachByteAlone();
        eachByteBehindAName();
        eachByteBehindANumber();
        eachByteBehindASign();
        wordsOfEightLetters();
        numbersOfFourDigits();
        ownWordsAreNoNames();
        tokensWithoutBlanks();
        fourPowers();
        eightLayers();
        thickFromOneToTwenty();
        wetUpToTwenty();
        settings();
        settingsOnce();
        thirtyUnits();
        unitsThatCount();
        sevenDeep();
        namesOfASort();
        powersToldAhead();
        theFirstByItsPlace();
        atOnePlaceTheLeast();
        theEndOfTheText();
        textOfAllBytes();
        newObjectIsAnEmptyTable();
        feedUpToAllBytes();
        feedTheHighestFirst();
        endWithinTheTape();
        tableBeginsAnew();
        emptyTapeIsATable();
        faultLeavesAll();
        faultOfTheLatest();
        Check.finish("TableEdgeTests");
    }

    // ---- TOKENS

    private static boolean isLetter(int sign) {
        return sign >= 'a' && sign <= 'z';
    }

    private static boolean isDigit(int sign) {
        return sign >= '0' && sign <= '9';
    }

    private static boolean isBlank(int sign) {
        return sign == 32 || sign == 10;
    }

    private static boolean isToken(int sign) {
        return isLetter(sign) || isDigit(sign) || SIGNS.indexOf(sign) >= 0;
    }

    private static void eachByteAlone() {
        for (int sign = 0; sign < 256; sign++) {
            String text = String.valueOf((char) sign);
            if (isBlank(sign)) {
                Check.dueTable(text, 0);
            } else {
                Check.dueFault(text, isToken(sign) ? 2 : 1, 0);
            }
        }
    }

    private static void eachByteBehindAName() {
        for (int sign = 0; sign < 256; sign++) {
            String text = "power a" + (char) sign;
            if (sign == ';') {
                Check.dueTable(text, 0);
            } else if (isBlank(sign) || isLetter(sign)) {
                Check.dueFault(text, 2, 8);
            } else {
                Check.dueFault(text, isToken(sign) ? 2 : 1, 7);
            }
        }
    }

    private static void eachByteBehindANumber() {
        for (int sign = 0; sign < 256; sign++) {
            String text = "damps 1" + (char) sign;
            if (sign == ';') {
                Check.dueTable(text, 0);
            } else if (isBlank(sign) || isDigit(sign)) {
                Check.dueFault(text, 2, 8);
            } else if (isLetter(sign)) {
                Check.dueFault(text, 1, 6);
            } else {
                Check.dueFault(text, isToken(sign) ? 2 : 1, 7);
            }
        }
    }

    private static void eachByteBehindASign() {
        for (int sign = 0; sign < 256; sign++) {
            String text = "slips 1<" + (char) sign;
            boolean isOpen = isBlank(sign) || isDigit(sign) || sign == '(';
            Check.dueFault(text, isOpen || isToken(sign) ? 2 : 1, isOpen ? 9 : 8);
        }
    }

    private static void wordsOfEightLetters() {
        Check.dueTable("power a;", 0);
        Check.dueTable("power abcdefgh;", 0);
        Check.dueTable("power zzzzzzzz;layer zzzzzzzz of zzzzzzzz thick 1;", 1);
        Check.dueFault("power abcdefghi;", 1, 6);
        Check.dueFault("power a;layer abcdefghi of a thick 1;", 1, 14);
        Check.dueFault("power abcdefgh;layer l of abcdefghi thick 1;", 1, 26);
        // All eight letters count, the last one and the first one, too.
        Check.dueTable("power abcdefgh;power abcdefgi;power bbcdefgh;", 0);
        Check.dueFault("power abcdefgh;power abcdefgh;", 3, 21);
        // Where none can stand, too: the word is no TOKEN.
        Check.dueFault("abcdefghi", 1, 0);
        Check.dueFault("abcdefgh", 2, 0);
        Check.dueFault(";abcdefghi", 2, 0);
        // A word that goes on behind one that stands for itself is another one.
        Check.dueFault("powerslip;", 1, 0);
        Check.dueFault("powersl;", 2, 0);
    }

    private static void numbersOfFourDigits() {
        Check.dueTable("damps 0;", 0);
        Check.dueTable("damps 0000;", 0);
        Check.dueTable("damps 0001;", 0);
        Check.dueFault("damps 00000;", 1, 6);
        Check.dueFault("damps 00001;", 1, 6);
        Check.dueFault("damps 9999;", 4, 6);
        Check.dueFault("damps 10000;", 1, 6);
        Check.dueTable("slips 9999;", 0);
        Check.dueFault("slips 99999;", 1, 6);
        Check.dueFault("slips 99999999999999999999999999;", 1, 6);
        SandwichTreaty x = Check.told("power a;layer l of a thick 1;slips 9999;");
        Check.due("all four digits", 9999, x.slip(0));
        Check.dueFault("12345", 1, 0);
        Check.dueFault("1234", 2, 0);
    }

    private static void ownWordsAreNoNames() {
        for (String word : OWN_WORDS) {
            Check.dueFault("power " + word + ";", 2, 6);
            Check.dueFault("power a;layer " + word + " of a thick 1;", 2, 14);
            Check.dueFault("power a;layer l of " + word + " thick 1;", 2, 19);
            Check.dueTable("power x" + word + ";layer " + word + "x of x" + word + " thick 1;", 1);
            Check.dueTable("power " + word.substring(1) + "q;", 0);
        }
        for (String word : new String[] {"e", "n", "line", "both", "one", "sum", "term", "unit", "name", "slip", "table"}) {
            Check.dueTable("power " + word + ";layer " + word + " of " + word + " thick 1;", 1);
        }
    }

    private static void tokensWithoutBlanks() {
        Check.dueTable("power a;layer b of a thick1wet2;".replace("1wet", "1 wet"), 1);
        Check.dueFault("power a;layer b of a thick1wet2;", 1, 26);
        Check.dueTable("power a;layer b of a thick\n1\nwet\n2\n;\n\n", 1);
        Check.dueTable("slips not(1)and(wet<2)or day%3=1;", 0);
        Check.dueTable("  \n power\n\n a ; \n", 0);
        Check.dueFault("slips 1and 2;", 1, 6);
        Check.dueTable("slips(1)and 2;", 0);
        Check.dueFault("slips 1 and2a;", 1, 11);
    }

    // ---- limits

    private static void fourPowers() {
        String four = "power a;power b;power c;power d;";
        Check.dueTable(four, 0);
        Check.due("four POWERS", 4, Check.told(four).about(1));
        Check.dueFault(four + "power e;", 2, 32);
        Check.dueFault(four + "power a;", 2, 32);
        Check.dueFault(four + "power", 2, 32);
        Check.dueFault(four + " power $", 2, 33);
        SandwichTreaty x = Check.told(four + "layer l of d thick 2;layer m of a thick 3;");
        Check.due("the last POWER's", 3, x.layer(0, 0));
        Check.due("the first POWER's", 0, x.layer(1, 0));
        Check.due("power(3, 0)", 1, x.power(3, 0));
        Check.due("power(4, 0)", -1, x.power(4, 0));
    }

    private static String layers(int count) {
        StringBuilder text = new StringBuilder("power a;");
        for (int i = 0; i < count; i++) {
            text.append("layer ").append((char) ('a' + i)).append(" of a thick ").append(i + 1).append(";");
        }
        return text.toString();
    }

    private static void eightLayers() {
        Check.dueTable(layers(7), 7);
        Check.dueTable(layers(8), 8);
        Check.dueFault(layers(9), 2, layers(8).length());
        Check.dueFault(layers(8) + "layer a", 2, layers(8).length());
        Check.dueFault(layers(8) + "layer", 2, layers(8).length());
        SandwichTreaty x = Check.told(layers(8));
        Check.dueStack("eight", x, 0, 1, 2, 3, 4, 5, 6, 7);
        Check.due("the eighth", 8, x.layer(7, 1));
        SandwichTreaty y = Check.told(layers(7) + "power b;layer h of b thick 20 wet 20;");
        int[] eighth = {1, 20, 20, 7, 0, 0, 1};
        for (int what = 0; what < 7; what++) {
            Check.due("the eighth, what " + what, eighth[what], y.layer(7, what));
        }
        Check.due("a ninth", -2, x.layer(8, 1));
    }

    private static void thickFromOneToTwenty() {
        String start = "power a;layer l of a thick ";
        for (int thick = 1; thick <= 20; thick++) {
            Check.due("thick " + thick, thick, Check.told(start + thick + ";").layer(0, 1));
        }
        Check.dueFault(start + "0;", 4, 27);
        Check.dueFault(start + "0000", 4, 27);
        Check.dueFault(start + "21;", 4, 27);
        Check.due("thick 0020", 20, Check.told(start + "0020;").layer(0, 1));
    }

    private static void wetUpToTwenty() {
        String start = "power a;layer l of a thick 1";
        for (int wet = 0; wet <= 20; wet++) {
            Check.due("wet " + wet, wet, Check.told(start + " wet " + wet + ";").layer(0, 2));
        }
        Check.due("wet untold", 0, Check.told(start + ";").layer(0, 2));
        Check.due("wet untold behind a told one", 0,
            Check.told(start + " wet 9;layer m of a thick 1;").layer(1, 2));
        Check.dueFault(start + " wet 21;", 4, 33);
        Check.dueFault(start + " wet;", 2, 32);
        // What was told in another table is not left over.
        SandwichTreaty x = Check.told(start + " wet 9;");
        Check.tell(x, start + ";");
        Check.due("wet untold in the next table", 0, x.layer(0, 2));
    }

    private static void dueSetting(String word, int least, int most, int what) {
        Check.due(word + " " + least, least, Check.told(word + " " + least + ";").about(what));
        Check.due(word + " " + most, most, Check.told(word + " " + most + ";").about(what));
        Check.dueFault(word + " " + (most + 1) + ";", 4, word.length() + 1);
        if (least > 0) {
            Check.dueFault(word + " " + (least - 1) + ";", 4, word.length() + 1);
        }
    }

    private static void settings() {
        dueSetting("damps", 0, 30, 14);
        dueSetting("pick", 1, 8, 15);
        dueSetting("draw", 0, 999, 6);
        Check.due("damps untold", 1, Check.told("pick 8;").about(14));
        Check.due("pick untold", 3, Check.told("damps 9;").about(15));
        Check.due("draw untold", 0, Check.told("damps 9;").about(6));
        Check.due("sun 0", 1, Check.told("sun 0;").odds(1, 0));
        Check.due("sun 0, lower part", 1, Check.told("sun 0;").odds(1, 1));
        Check.due("sun 1", 99, Check.told("sun 1;").odds(1, 0));
        Check.due("sun untold", 1, Check.told("damps 9;").odds(1, 0));
        Check.due("sun untold, lower part", 1, Check.told("damps 9;").odds(1, 1));
        Check.due("sun 99, lower part", 100, Check.told("sun 99;").odds(1, 1));
        Check.due("sun 100", 0, Check.told("sun 100;").odds(1, 0));
        Check.dueFault("sun 101;", 4, 4);
        SandwichTreaty x = Check.told("damps 9;pick 7;sun 30;draw 77;slips 1;");
        Check.tell(x, "power a;layer l of a thick 3;");
        Check.due("damps untold in the next table", 1, x.about(14));
        Check.due("pick untold in the next table", 3, x.about(15));
        Check.due("draw untold in the next table", 0, x.about(6));
        Check.due("sun untold in the next table", 1, x.odds(1, 0));
        Check.due("sun untold in the next table, lower part", 1, x.odds(1, 1));
        Check.due("slips untold in the next table", -3, x.slip(0));
        Check.due("units untold in the next table", 0, x.about(12));
        // A shorter formula behind a longer one has nothing of that.
        Check.tell(x, "power a;layer l of a thick 3;slips not not not thick;");
        Check.tell(x, "power a;layer l of a thick 3;slips thick;");
        Check.due("slips told anew", 3, x.slip(0));
        // Nor has it anything of a table that was refused.
        Check.tell(x, "power a;layer l of a thick 9 wet 9;slips 1+1;damps 9;pick 9;");
        Check.tell(x, "power a;layer l of a thick 3;");
        Check.due("slips untold behind a fault", -3, x.slip(0));
        Check.due("units untold behind a fault", 0, x.about(12));
        Check.due("damps untold behind a fault", 1, x.about(14));
        Check.due("wet untold behind a fault", 0, x.layer(0, 2));
    }

    private static void settingsOnce() {
        String[] lines = {"slips 1;", "damps 1;", "pick 1;", "sun 1;", "draw 1;"};
        StringBuilder all = new StringBuilder();
        for (String line : lines) {
            all.append(line);
        }
        Check.dueTable(all.toString(), 0);
        for (String line : lines) {
            Check.dueFault(all + line, 2, all.length());
            // At the line's first word, whatever comes behind it.
            Check.dueFault(all + "\n" + line.substring(0, line.indexOf(' ')), 2, all.length() + 1);
            Check.dueFault(line + line.substring(0, line.indexOf(' ')) + " $", 2, line.length());
        }
    }

    // ---- units

    private static String many(String part, int count) {
        StringBuilder text = new StringBuilder();
        for (int i = 0; i < count; i++) {
            text.append(part);
        }
        return text.toString();
    }

    private static void thirtyUnits() {
        for (String sign : new String[] {"+", "-", "*", "/", "%", " and ", " or "}) {
            String thirty = "slips 1" + many(sign + "1", 29);
            SandwichTreaty x = Check.told(thirty + ";");
            Check.due("units by " + sign, 30, x.about(12));
            Check.dueFault(thirty + sign + "1;", 2, (thirty + sign).length());
            Check.dueFault(thirty + sign + "wet;", 2, (thirty + sign).length());
            Check.dueFault(thirty + sign + "(1);", 2, (thirty + sign).length());
            Check.dueFault(thirty + sign + "10000;", 1, (thirty + sign).length());
        }
        String thirty = "slips 1" + many("+1", 29);
        Check.dueFault(thirty + "<1;", 2, thirty.length() + 1);
        // The not is fine, the unit behind it is too many.
        Check.dueFault(thirty + " and not 1;", 2, thirty.length() + 9);
        Check.dueFault(thirty + ";slips", 2, thirty.length() + 1);
    }

    private static void unitsThatCount() {
        Check.due("no units", 0, Check.told("").about(12));
        Check.due("one", 1, Check.told("slips day;").about(12));
        Check.due("( e ) is a unit, too", 2, Check.told("slips (day);").about(12));
        Check.due("each ( e )", 8, Check.told("slips (((((((1)))))));").about(12));
        Check.due("a not is none", 1, Check.told("slips not not not 1;").about(12));
        Check.due("all words", 7, Check.told("slips thick+wet+above+below+damp+foes+day;").about(12));
        Check.due("of both sides", 4, Check.told("slips 1<2 or 3>4;").about(12));
        String inner = "slips (1" + many("+1", 28) + ")";
        Check.due("29 and ( e )", 30, Check.told(inner + ";").about(12));
        Check.dueFault(inner + "+1;", 2, inner.length() + 1);
        Check.dueFault("slips (1" + many("+1", 29) + ");", 2, 65);
    }

    private static void sevenDeep() {
        Check.dueTable("slips " + many("(", 7) + "1" + many(")", 7) + ";", 0);
        Check.dueFault("slips " + many("(", 8) + "1" + many(")", 8) + ";", 2, 13);
        Check.dueTable("slips " + many("not ", 7) + "1;", 0);
        Check.dueFault("slips " + many("not ", 8) + "1;", 2, 34);
        for (int nots = 0; nots <= 7; nots++) {
            String start = "slips " + many("not ", nots) + many("(", 7 - nots);
            String end = many(")", 7 - nots) + ";";
            Check.dueTable(start + "1" + end, 0);
            Check.dueFault(start + "(1)" + end, 2, start.length());
            Check.dueFault(start + "not 1" + end, 2, start.length());
            // Beside one another they are within no more.
            Check.dueTable(start + "1" + many(")", 7 - nots) + " and not 1 or (1);", 0);
        }
        String six = "slips " + many("(", 6);
        Check.dueTable(six + "(1)+(2)*(3)<(4) and not 5 or (6)" + many(")", 6) + ";", 0);
        SandwichTreaty x = Check.told("power a;layer l of a thick 1;slips 9-" + many("(", 7) + "8-5" + many(")", 7) + ";");
        Check.due("what is within seven", 6, x.slip(0));
    }

    // ---- FAULTS

    private static void namesOfASort() {
        Check.dueFault("power a;power a;", 3, 14);
        Check.dueFault("power a;power b;power c;power a", 3, 30);
        Check.dueFault("power a;power b;power c;power c", 3, 30);
        Check.dueFault("power a;layer l of a thick 1;layer l of a thick 1;", 3, 35);
        Check.dueFault(layers(7) + "layer g", 3, layers(7).length() + 6);
        Check.dueFault(layers(7) + "layer a", 3, layers(7).length() + 6);
        Check.dueTable("power a;layer a of a thick 1;power l;layer l of l thick 1;", 2);
        // Of another table it may be the same.
        SandwichTreaty x = Check.told("power a;layer l of a thick 1;");
        Check.due("the same names again", 1, Check.tell(x, "power a;layer l of a thick 1;"));
        Check.due("a POWER of another table", -1, Check.tell(x, "layer l of a thick 1;"));
        Check.due("its fault", 5, x.fault(0));
    }

    private static void powersToldAhead() {
        Check.dueFault("layer l of a thick 1;power a;", 5, 11);
        Check.dueFault("power b;layer l of a thick 1;power a;", 5, 19);
        Check.dueFault("power b;layer l of l thick 1;", 5, 19);
        Check.dueFault("power a;layer l of aa thick 1;", 5, 19);
        Check.dueTable("power a;layer l of a thick 1;power b;layer m of b thick 1;", 2);
    }

    private static void theFirstByItsPlace() {
        Check.dueFault("power a;power a $", 3, 14);
        Check.dueFault("power $ power", 1, 6);
        Check.dueFault("damps 31 31", 4, 6);
        Check.dueFault("damps 31$", 4, 6);
        Check.dueFault("layer l of z 1", 5, 11);
        Check.dueFault("power a;layer l of a thick 21 wet 21;", 4, 27);
        Check.dueFault("power a;layer l of a thick 20 wet 21;damps 31;", 4, 34);
        Check.dueFault("slips 1 2 $", 2, 8);
        Check.dueFault("slips 1 $ 2", 1, 8);
        Check.dueFault("slips (1;$", 2, 8);
    }

    private static void atOnePlaceTheLeast() {
        // No TOKEN ahead of one that can't stand there, of a NAME, of a number.
        Check.dueFault("damps 99999;", 1, 6);
        Check.dueFault("damps 99a;", 1, 6);
        Check.dueFault("power a;layer l of abcdefghi thick 1;", 1, 19);
        Check.dueFault("power a;layer l of a thick 1;layer abcdefghi", 1, 35);
        Check.dueFault("power a 99999", 1, 8);
        // One that can't stand there ahead of a NAME that is told already.
        Check.dueFault("power a;power power;", 2, 14);
        Check.dueFault("layer l of of;", 2, 11);
    }

    private static void theEndOfTheText() {
        String line = "power a;layer l of a thick 1 wet 2;slips not(1<2);damps 3;";
        boolean[] ends = new boolean[line.length() + 1];
        ends[0] = true;
        for (int i = 0; i < line.length(); i++) {
            ends[i + 1] = line.charAt(i) == ';';
        }
        for (int length = 0; length <= line.length(); length++) {
            String text = line.substring(0, length);
            if (ends[length]) {
                Check.dueTable(text, length < 30 ? 0 : 1);
                Check.dueTable(text + " \n", length < 30 ? 0 : 1);
            }
        }
        for (String text : new String[] {"power", "power a", "power a;layer", "power a;layer l", "power a;layer l of",
            "power a;layer l of a", "power a;layer l of a thick", "power a;layer l of a thick 1",
            "power a;layer l of a thick 1 wet", "power a;layer l of a thick 1 wet 0", "slips", "slips not", "slips 1", "slips 1+",
            "slips 1*", "slips 1<", "slips 1 and", "slips 1 or", "slips (", "slips (1", "slips (1)", "damps", "damps 1", "pick",
            "pick 1", "sun", "sun 1", "draw", "draw 1"}) {
            Check.dueFault(text, 2, text.length());
            Check.dueFault(text + " ", 2, text.length() + 1);
            Check.dueFault(text + "\n \n", 2, text.length() + 3);
        }
    }

    // ---- promises 1 to 5

    private static void textOfAllBytes() {
        String line = "power a;layer l of a thick 1";
        String full = line + many(" ", 1599 - line.length());
        SandwichTreaty x = new SandwichTreaty();
        Check.due("1,600 bytes", 1, Check.tell(x, full + ";"));
        Check.due("the last byte is no TOKEN", -1, Check.tell(x, full + "$"));
        Check.due("its fault", 1, x.fault(0));
        Check.due("its place", 1599, x.fault(1));
        Check.due("it ends at 1,600", -1, Check.tell(x, full + " "));
        Check.due("its fault", 2, x.fault(0));
        Check.due("the text's length", 1600, x.fault(1));
        Check.due("a word up to the end", -1, Check.tell(x, many(" ", 1592) + "abcdefgh"));
        Check.due("its place", 1592, x.fault(1));
        Check.due("a long word up to the end", -1, Check.tell(x, many(" ", 1591) + "abcdefghi"));
        Check.due("its fault", 1, x.fault(0));
        Check.due("a number up to the end", -1, Check.tell(x, "slips" + many(" ", 1591) + "9999"));
        Check.due("its place", 1600, x.fault(1));
        Check.due("a long number up to the end", -1, Check.tell(x, "slips" + many(" ", 1590) + "99999"));
        Check.due("its place", 1595, x.fault(1));
        Check.due("1,600 bytes of one word", -1, Check.tell(x, many("a", 1600)));
        Check.due("its fault", 1, x.fault(0));
        Check.due("1,600 blanks", 0, Check.tell(x, many("\n ", 800)));
    }

    private static void newObjectIsAnEmptyTable() {
        SandwichTreaty x = new SandwichTreaty();
        SandwichTreaty y = new SandwichTreaty();
        Check.due("an empty TABLE", 0, y.table());
        Check.dueLike("a new object is as an empty TABLE", x, y);
    }

    private static void feedUpToAllBytes() {
        SandwichTreaty x = new SandwichTreaty();
        Check.due("none at first", 0, x.about(11));
        for (int i = 1; i <= 80; i++) {
            Check.due("feed " + i, 20 * i, x.feed(0x20202020, 0x20202020, 0x20202020, 0x20202020, 0x20202020));
        }
        Check.due("an 81st", -1, x.feed(0, 0, 0, 0, 0));
        for (int room = 1; room < 20; room++) {
            Check.due("end", 1600 - room, x.end(1600 - room));
            Check.due("feed with room for " + room, -1, x.feed(0, 0, 0, 0, 0));
            Check.due("nothing comes", 1600 - room, x.about(11));
        }
        Check.due("end", 1580, x.end(1580));
        Check.due("feed with room for 20", 1600, x.feed(0x20202020, 0x20202020, 0x20202020, 0x20202020, 0x2020203B));
        // Were a byte of the refused ones there, it would be no TOKEN; so the first fault is the ; of the last feed.
        Check.due("the bytes are as they were", -1, x.table());
        Check.due("its fault", 2, x.fault(0));
        Check.due("its place", 1599, x.fault(1));
    }

    private static void feedTheHighestFirst() {
        SandwichTreaty x = new SandwichTreaty();
        x.feed(0x706F7765, 0x7220613B, 0x64616D70, 0x73203235, 0x3B202020);
        Check.due("power a;damps 25;", 0, x.table());
        Check.due("about(1)", 1, x.about(1));
        Check.due("about(14)", 25, x.about(14));
        for (int place = 0; place < 20; place++) {
            int[] words = {0x20202020, 0x20202020, 0x20202020, 0x20202020, 0x20202020};
            int shift = 24 - 8 * (place % 4);
            // A byte of 255 makes the number one below 0 when it is the highest.
            words[place / 4] = words[place / 4] & ~(255 << shift) | 255 << shift;
            x.feed(words[0], words[1], words[2], words[3], words[4]);
            Check.due("a byte of 255", -1, x.table());
            Check.due("its place", place, x.fault(1));
        }
    }

    private static void endWithinTheTape() {
        SandwichTreaty x = new SandwichTreaty();
        Check.due("end(0) of none", 0, x.end(0));
        Check.due("end(1) of none", -1, x.end(1));
        Check.due("end(-1) of none", -1, x.end(-1));
        Check.put(x, "power a;power b;dampsx");
        Check.due("all", 22, x.end(22));
        Check.due("one more", -1, x.end(23));
        Check.due("below 0", -1, x.end(-1));
        Check.due("far below 0", -1, x.end(Integer.MIN_VALUE));
        Check.due("far more", -1, x.end(Integer.MAX_VALUE));
        Check.due("it did nothing", 22, x.about(11));
        Check.due("end(20)", 20, x.end(20));
        Check.due("what is gone doesn't come back", -1, x.end(21));
        Check.due("end(16)", 16, x.end(16));
        Check.due("feed comes behind", 36, x.feed(0x70696368, 0x20202020, 0x20202020, 0x20202020, 0x20202020));
        Check.due("table", -1, x.table());
        Check.due("its place", 16, x.fault(1));
        Check.due("empty then", -1, x.end(1));
        Check.put(x, "power a;$");
        Check.due("without the last", 8, x.end(8));
        Check.due("table", 0, x.table());
        Check.put(x, "$");
        Check.due("end(0)", 0, x.end(0));
        Check.due("an empty text", 0, x.table());
    }

    private static final String TWO = "power a; layer p of a thick 4 wet 2; layer q of a thick 1; draw 5; damps 2; pick 4;";

    /** All that a table makes anew is another than at first. */
    private static SandwichTreaty lived() {
        SandwichTreaty x = Check.told(TWO);
        x.tasted(0, 0, false);
        x.later(7);
        x.untell(0);
        x.tasted(1, 1, true);
        x.image(0);
        x.pin(0);
        x.day();
        x.image(1);
        x.move(0, 1);
        x.day();
        x.image(2);
        x.pull(1);
        x.undo();
        x.order();
        return x;
    }

    private static void tableBeginsAnew() {
        SandwichTreaty x = lived();
        SandwichTreaty y = new SandwichTreaty();
        y.later(7);
        Check.due("table of the same", 2, Check.tell(x, TWO));
        Check.due("table of the same", 2, Check.tell(y, TWO));
        Check.due("the TIME stays", 7, x.about(10));
        Check.due("nothing lies there", 0, x.about(13));
        for (int box = 0; box < 3; box++) {
            Check.due("BOX " + box + " is empty", -1, x.back(box));
        }
        Check.due("nothing is TASTED", false, x.untell(0));
        Check.due("no ACTS", false, x.undo());
        Check.due("none taken back", false, x.redo());
        Check.dueLike("as told", x, y);
    }

    private static void emptyTapeIsATable() {
        SandwichTreaty x = lived();
        SandwichTreaty y = new SandwichTreaty();
        y.later(7);
        Check.due("an empty tape", 0, x.table());
        Check.due("fault", 0, x.fault(0));
        Check.dueLike("as a new one", x, y);
    }

    private static void faultLeavesAll() {
        String[] texts = {"$", "power b;$", "power b;layer z of b thick 3;draw 12;damps 3;pick 5;sun 9;slips 1;power b;",
            "layer z of b", "damps 31;", "power a; layer p of a thick 4 wet 2; layer q of a thick 1; draw 5; damps 2; pick 4"};
        for (String text : texts) {
            SandwichTreaty x = lived();
            SandwichTreaty y = lived();
            Check.due("table of " + text, -1, Check.tell(x, text));
            Check.due("fault of " + text, true, x.fault(0) > 0);
            Check.due("the tape is empty behind " + text, 0, x.about(11));
            Check.dueLike("all stays behind " + text, x, y);
        }
    }

    private static void faultOfTheLatest() {
        SandwichTreaty x = new SandwichTreaty();
        Check.due("none at first", 0, x.fault(0));
        Check.due("no place at first", -1, x.fault(1));
        Check.due("what 2", -1, x.fault(2));
        Check.due("what -1", -1, x.fault(-1));
        Check.tell(x, "power a;power a;");
        Check.due("the fault", 3, x.fault(0));
        Check.due("its place", 14, x.fault(1));
        Check.due("what 2 with a fault", -1, x.fault(2));
        Check.due("what -1 with a fault", -1, x.fault(-1));
        x.feed(0, 0, 0, 0, 0);
        x.day();
        Check.due("of the latest table() still", 3, x.fault(0));
        x.end(0);
        x.table();
        Check.due("no fault", 0, x.fault(0));
        Check.due("no place", -1, x.fault(1));
        Check.tell(x, "$");
        Check.due("another fault", 1, x.fault(0));
        Check.due("a place of 0", 0, x.fault(1));
    }
}
