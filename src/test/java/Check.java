import java.util.List;

/** What all tests share: telling a table as a text, and counting the answers that are not as due. */
final class Check {
    private static int wrong = 0;
    private static int looked = 0;

    private Check() { }

    static void due(String what, long want, long got) {
        looked++;
        if (got != want) {
            wrong++;
            System.out.println(what + " answered " + got + ", due is " + want);
        }
    }

    static void due(String what, boolean want, boolean got) {
        due(what, want ? 1 : 0, got ? 1 : 0);
    }

    static int count() {
        return wrong;
    }

    static void finish(String name) {
        System.out.println(name + ": " + looked + " answers, " + wrong + " wrong");
        if (wrong != 0) {
            System.exit(1);
        }
    }

    /** Puts a text on the tape of x, which is empty. */
    static void put(SandwichTreaty x, String text) {
        for (int from = 0; from < text.length(); from += 20) {
            int[] words = new int[5];
            for (int i = 0; i < 20; i++) {
                int at = from + i;
                int sign = at < text.length() ? text.charAt(at) & 255 : 0;
                words[i / 4] = words[i / 4] << 8 | sign;
            }
            x.feed(words[0], words[1], words[2], words[3], words[4]);
        }
        x.end(text.length());
    }

    static int tell(SandwichTreaty x, String text) {
        put(x, text);
        return x.table();
    }

    static SandwichTreaty told(String text) {
        SandwichTreaty x = new SandwichTreaty();
        int layers = tell(x, text);
        if (layers == SandwichTreaty.NONE) {
            due("table of " + text, 0, x.fault(0) * 10000 + x.fault(1));
        }
        return x;
    }

    static void dueLies(String what, SandwichTreaty x, int... want) {
        due(what + ", about(13)", want.length, x.about(13));
        for (int i = 0; i < want.length; i++) {
            due(what + ", lies(" + i + ")", want[i], x.lies(i));
        }
        due(what + ", lies behind the last", -1, x.lies(want.length));
        due(what + ", lies(-1)", -1, x.lies(-1));
    }

    static void dueStack(String what, SandwichTreaty x, int... want) {
        due(what + ", about(2)", want.length, x.about(2));
        for (int i = 0; i < want.length; i++) {
            due(what + ", at(" + i + ")", want[i], x.at(i));
        }
        due(what + ", at behind the last", -1, x.at(want.length));
        due(what + ", at(-1)", -1, x.at(-1));
    }

    static void dueTable(String text, int layers) {
        SandwichTreaty x = new SandwichTreaty();
        due("table of " + text, layers, tell(x, text));
        due("fault of " + text, 0, x.fault(0));
        due("no place in " + text, -1, x.fault(1));
        due("the tape is empty behind " + text, 0, x.about(11));
    }

    static void dueFault(String text, int kind, int place) {
        SandwichTreaty x = new SandwichTreaty();
        due("table of " + text, -1, tell(x, text));
        due("fault of " + text, kind, x.fault(0));
        due("its place in " + text, place, x.fault(1));
        due("the tape is empty behind " + text, 0, x.about(11));
    }

    /** Both show the same, whatever is asked; both are changed by that. */
    static void dueLike(String what, SandwichTreaty x, SandwichTreaty y) {
        List<String> got = Look.at(x);
        List<String> want = Look.at(y);
        looked += want.size();
        if (got.equals(want)) {
            return;
        }
        wrong++;
        for (int i = 0; i < want.size() && i < got.size(); i++) {
            if (!got.get(i).equals(want.get(i))) {
                System.out.println(what + ": " + got.get(i) + ", due is " + want.get(i));
                return;
            }
        }
        System.out.println(what + ": " + got.size() + " lines, due are " + want.size());
    }
}
