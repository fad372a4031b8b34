import java.lang.reflect.Field;
import java.lang.reflect.Member;
import java.lang.reflect.Method;
import java.lang.reflect.Modifier;
import java.nio.charset.StandardCharsets;
import java.nio.file.Files;
import java.nio.file.Paths;
import java.util.ArrayList;
import java.util.List;
import java.util.TreeSet;

/** The public face, and the rules of LANGUAGE.md that can be read off the class and its source (told as an argument). */
public final class FaceTests {
    private static final String[] FACE = {
        "int feed(int, int, int, int, int)", "int end(int)", "int table()", "int fault(int)", "int layer(int, int)",
        "int slip(int)", "int power(int, int)", "int at(int)", "int day()", "int lay(int)", "int pull(int)",
        "int move(int, int)", "int pin(int)", "int unpin(int)", "boolean undo()", "boolean redo()", "int shaky()",
        "int stands(int, int)", "int lasts(int)", "int holds()", "int order()", "int stay(int)", "int pins(int, int)",
        "int picks()", "int cut(int)", "int change(int, int)", "int pillars()", "int between(int, int)",
        "int wedged(int)", "int game(int, int, int, int)", "int height()", "int greatest()", "int absent()",
        "int loosest()", "int law(int)", "int soaks(int)", "int damp(int)", "int odds(int, int)", "int lies(int)",
        "int tasted(int, int, boolean)", "boolean untell(int)", "int later(int)", "int fits(int)",
        "int sure(int, int)", "int ask(int, int, int)", "int image(int)", "int back(int)", "int about(int)"};

    private FaceTests() { }

    public static void main(String[] args) throws Exception {
        face();
        classes();
        if (args.length > 0) {
            source(new String(Files.readAllBytes(Paths.get(args[0])), StandardCharsets.ISO_8859_1));
        }
        Check.finish("FaceTests");
    }

    private static void holds(String what, boolean is) {
        Check.due(what, true, is);
    }

    private static String told(Method method) {
        StringBuilder text = new StringBuilder(method.getReturnType() + " " + method.getName() + "(");
        for (int i = 0; i < method.getParameterCount(); i++) {
            text.append(i == 0 ? "" : ", ").append(method.getParameterTypes()[i]);
        }
        return text.append(")").toString();
    }

    private static void face() {
        Class<?> type = SandwichTreaty.class;
        holds("the class is public and final", Modifier.isPublic(type.getModifiers()) && Modifier.isFinal(type.getModifiers()));
        TreeSet<String> methods = new TreeSet<>();
        TreeSet<String> names = new TreeSet<>();
        for (Method method : type.getDeclaredMethods()) {
            if (Modifier.isPublic(method.getModifiers())) {
                methods.add(told(method));
                names.add(method.getName());
                holds(method + " is no static one", !Modifier.isStatic(method.getModifiers()));
            }
        }
        holds("the methods are those of the document: " + methods, methods.equals(new TreeSet<>(List.of(FACE))));
        for (Class<?> each : all()) {
            for (Method method : each.getDeclaredMethods()) {
                boolean isFace = each == type && Modifier.isPublic(method.getModifiers());
                holds(method + " bears the name of a public one", isFace || !names.contains(method.getName()));
            }
        }
        Check.due("one constructor", 1, type.getDeclaredConstructors().length);
        holds("it is public", Modifier.isPublic(type.getDeclaredConstructors()[0].getModifiers()));
        Check.due("it takes nothing", 0, type.getDeclaredConstructors()[0].getParameterCount());
        List<Member> members = new ArrayList<>(List.of(type.getDeclaredFields()));
        members.addAll(List.of(type.getDeclaredMethods()));
        for (Member member : members) {
            boolean isFace = Modifier.isPublic(member.getModifiers());
            holds(member + " is private", isFace || Modifier.isPrivate(member.getModifiers()));
            holds(member + " is NONE or a method", !isFace || member instanceof Method || member.getName().equals("NONE"));
        }
    }

    private static List<Class<?>> all() {
        List<Class<?>> all = new ArrayList<>(List.of(SandwichTreaty.class.getDeclaredClasses()));
        all.add(SandwichTreaty.class);
        return all;
    }

    private static void classes() {
        holds("at most twelve classes", all().size() <= 12);
        for (Class<?> each : all()) {
            int modifiers = each.getModifiers();
            holds(each + " has no class of its own", each == SandwichTreaty.class || each.getDeclaredClasses().length == 0);
            holds(each + " is static, and not public", each == SandwichTreaty.class
                || Modifier.isStatic(modifiers) && !Modifier.isPublic(modifiers) && !Modifier.isProtected(modifiers));
            int fields = 0;
            for (Field field : each.getDeclaredFields()) {
                boolean isStatic = Modifier.isStatic(field.getModifiers());
                fields += isStatic ? 0 : 1;
                holds(field + " is final", !isStatic || Modifier.isFinal(field.getModifiers()));
                holds(field + " is a number or a text", !isStatic || field.getType() == int.class || field.getType() == String.class);
            }
            holds(each + " has at most twenty fields", fields <= 20);
            for (Method method : each.getDeclaredMethods()) {
                holds(method + " takes at most seven", method.getParameterCount() <= 7);
                holds(method + " is not made by the compiler", !method.isSynthetic());
            }
        }
    }

    private static void source(String text) {
        for (int i = 0; i < text.length(); i++) {
            if (text.charAt(i) > 126) {
                Check.due("a sign beyond 126 at " + i, 0, text.charAt(i));
            }
        }
        String code = text.replaceAll("(?s)/\\*.*?\\*/", " ").replaceAll("//[^\n]*", " ")
            .replaceAll("\"[^\"\n]*\"", "\"\"").replaceAll("'[^'\n]+'", "0");
        for (String word : new String[] {"throw", "throws", "try", "catch", "finally", "synchronized", "assert",
            "protected", "import", "package", "volatile", "native", "double", "float", "Object", "hashCode", "equals",
            "toString", "instanceof", "abstract", "extends", "implements", "super", "enum", "record", "interface"}) {
            holds("no " + word, !code.matches("(?s).*\\b" + word + "\\b.*"));
        }
        for (String sign : new String[] {"->", "::", "Exact", "@", "while (true)", "for (;;)", "static {"}) {
            holds("no " + sign, !code.contains(sign));
        }
        shortMethods(text);
    }

    /** By the indents: a method ends at the first closing brace that stands as far in as its head. */
    private static void shortMethods(String text) {
        String[] lines = text.split("\n");
        for (int i = 0; i < lines.length; i++) {
            if (!lines[i].matches("( {4}| {8})\\w[^=;]*\\) \\{")) {
                continue;
            }
            String end = lines[i].replaceAll("\\S.*", "") + "}";
            int last = i;
            while (last < lines.length && !lines[last].equals(end)) {
                last++;
            }
            holds("at most sixty lines: " + lines[i], last - i < 60);
        }
    }
}
