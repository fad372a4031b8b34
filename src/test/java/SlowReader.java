import java.util.ArrayDeque;
import java.util.ArrayList;
import java.util.Arrays;
import java.util.Deque;
import java.util.HashMap;
import java.util.HashSet;
import java.util.List;
import java.util.Map;
import java.util.Set;
import java.util.regex.Matcher;
import java.util.regex.Pattern;

/**
 * Reads a TABLE by the rules of the document as they stand there, not by methods that call one another: all that could
 * still come is kept as rows of what is awaited, and a TOKEN that none of them awaits can't stand there.
 */
final class SlowReader {
    private static final Pattern PARTS = Pattern.compile("[ \n]+|[a-z]+|[0-9]+[a-z]*|.", Pattern.DOTALL);
    private static final List<String> FACTS = List.of("thick", "wet", "above", "below", "damp", "foes", "day");
    private static final Set<String> OWN = new HashSet<>(List.of("power", "layer", "of", "slips", "damps", "pick", "sun", "draw",
        "or", "and", "not"));
    private static final int DEEPEST = 7;

    static {
        OWN.addAll(FACTS);
    }

    int fault = 0;
    int place = -1;
    int units = 0;
    final List<String> powers = new ArrayList<>();
    final List<String> layers = new ArrayList<>();
    /** The POWER, thick and wet of each LAYER. */
    final List<int[]> told = new ArrayList<>();
    final Map<String, Integer> settings = new HashMap<>();
    private final Set<String> lines = new HashSet<>();

    /** What is awaited, the next of it at the end. */
    private Set<List<String>> awaited = new HashSet<>();
    private String matched;

    SlowReader(String text) {
        awaited.add(List.of("TABLE"));
        Matcher parts = PARTS.matcher(text);
        while (fault == 0 && parts.find()) {
            if (!parts.group().isBlank() || parts.group().matches("(?s)[^ \n]+")) {
                take(parts.group(), parts.start());
            }
        }
        if (fault == 0 && !canEnd()) {
            fail(2, text.length());
        }
    }

    private void fail(int kind, int at) {
        if (fault == 0) {
            fault = kind;
            place = at;
        }
    }

    private void take(String token, int at) {
        String kind = kindOf(token);
        if (kind == null) {
            fail(1, at);
            return;
        }
        Set<List<String>> left = new HashSet<>();
        for (List<String> row : opened(awaited)) {
            String next = row.isEmpty() ? "" : row.get(row.size() - 1);
            if (next.startsWith("'") && fits(next.substring(1), token, kind)) {
                matched = next.substring(1);
                left.add(row.subList(0, row.size() - 1));
            }
        }
        awaited = left;
        if (left.isEmpty()) {
            fail(2, at);
        } else {
            mean(token, at);
        }
    }

    private static String kindOf(String token) {
        if (token.matches("[a-z]{1,8}")) {
            return OWN.contains(token) ? token : "NAME";
        }
        if (token.matches("[0-9]{1,4}")) {
            return "N";
        }
        return token.matches("[;()<>=+\\-*/%]") ? token : null;
    }

    /** An awaited terminal is a word or sign, or its use ahead of a colon: NAME and N have several. */
    private static boolean fits(String terminal, String token, String kind) {
        int colon = terminal.indexOf(':');
        return colon < 0 ? terminal.equals(token) : terminal.substring(0, colon).equals(kind);
    }

    /** What the rules open to, till the next of each row is a terminal. */
    private static Set<List<String>> opened(Set<List<String>> rows) {
        Set<List<String>> done = new HashSet<>();
        Deque<List<String>> open = new ArrayDeque<>(rows);
        while (!open.isEmpty()) {
            List<String> row = open.pop();
            if (row.isEmpty() || row.get(row.size() - 1).startsWith("'")) {
                done.add(row);
                continue;
            }
            String next = row.get(row.size() - 1);
            for (String way : waysOf(next)) {
                List<String> opened = new ArrayList<>(row.subList(0, row.size() - 1));
                List<String> parts = way.isEmpty() ? List.of() : Arrays.asList(way.split(" "));
                for (int i = parts.size() - 1; i >= 0; i--) {
                    opened.add(parts.get(i));
                }
                open.push(opened);
            }
        }
        return done;
    }

    private boolean canEnd() {
        return opened(awaited).contains(List.<String>of());
    }

    /** The rules of the document; a digit tells within how many others it is. */
    private static List<String> waysOf(String rule) {
        char last = rule.charAt(rule.length() - 1);
        String d = Character.isDigit(last) ? String.valueOf(last) : "";
        String name = d.isEmpty() ? rule : rule.substring(0, rule.length() - 1);
        int depth = d.isEmpty() ? 0 : last - '0';
        switch (name) {
            case "TABLE": return List.of("", "LINE TABLE");
            case "LINE": return List.of("'power 'NAME:power ';", "'layer 'NAME:layer 'of 'NAME:its 'thick 'N:thick WET ';",
                "'slips E0 ';", "'damps 'N:damps ';", "'pick 'N:pick ';", "'sun 'N:sun ';", "'draw 'N:draw ';");
            case "WET": return List.of("", "'wet 'N:wet");
            case "E": return List.of("BOTH" + d + " OR" + d);
            case "OR": return List.of("", "'or BOTH" + d + " OR" + d);
            case "BOTH": return List.of("ONE" + d + " AND" + d);
            case "AND": return List.of("", "'and ONE" + d + " AND" + d);
            case "ONE":
                return depth < DEEPEST ? List.of("SUM" + d + " REL" + d, "'not ONE" + (depth + 1)) : List.of("SUM" + d + " REL" + d);
            case "REL": return List.of("", "'< SUM" + d, "'> SUM" + d, "'= SUM" + d);
            case "SUM": return List.of("TERM" + d + " PLUS" + d);
            case "PLUS": return List.of("", "'+ TERM" + d + " PLUS" + d, "'- TERM" + d + " PLUS" + d);
            case "TERM": return List.of("UNIT" + d + " TIMES" + d);
            case "TIMES": return List.of("", "'* UNIT" + d + " TIMES" + d, "'/ UNIT" + d + " TIMES" + d,
                "'% UNIT" + d + " TIMES" + d);
            default:
                List<String> units = new ArrayList<>(List.of("'N:unit"));
                for (String fact : FACTS) {
                    units.add("'" + fact + ":unit");
                }
                if (depth < DEEPEST) {
                    units.add("'(:unit E" + (depth + 1) + " ')");
                }
                return units;
        }
    }

    // ---- what a TOKEN means where it stands

    private void mean(String token, int at) {
        switch (matched) {
            case "power": count(powers.size() < 4, at); break;
            case "layer": count(layers.size() < 8, at); break;
            case "slips": case "damps": case "pick": case "sun": case "draw": count(lines.add(token), at); break;
            case "NAME:power": name(powers, token, at); break;
            case "NAME:layer": name(layers, token, at); told.add(new int[3]); break;
            case "NAME:its": its(token, at); break;
            case "N:thick": told.get(told.size() - 1)[1] = number(token, 1, 20, at); break;
            case "N:wet": told.get(told.size() - 1)[2] = number(token, 0, 20, at); break;
            case "N:damps": settings.put("damps", number(token, 0, 30, at)); break;
            case "N:pick": settings.put("pick", number(token, 1, 8, at)); break;
            case "N:sun": settings.put("sun", number(token, 0, 100, at)); break;
            case "N:draw": settings.put("draw", number(token, 0, 999, at)); break;
            default: unit(at); break;
        }
    }

    private void unit(int at) {
        if (matched.endsWith(":unit")) {
            units++;
            count(units <= 30, at);
        }
    }

    private void count(boolean is, int at) {
        if (!is) {
            fail(2, at);
        }
    }

    private void name(List<String> names, String token, int at) {
        if (names.contains(token)) {
            fail(3, at);
        }
        names.add(token);
    }

    private void its(String token, int at) {
        if (!powers.contains(token)) {
            fail(5, at);
        }
        told.get(told.size() - 1)[0] = powers.indexOf(token);
    }

    private int number(String token, int least, int most, int at) {
        int number = Integer.parseInt(token);
        if (number < least || number > most) {
            fail(4, at);
        }
        return number;
    }
}
