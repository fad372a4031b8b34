import java.lang.reflect.InvocationTargetException;
import java.lang.reflect.Method;
import java.lang.reflect.Modifier;

/** Whatever is asked, in whatever state: no call throws. */
public final class RobustTests {
    private static final int[] NUMBERS = {Integer.MIN_VALUE, -1000, -2, -1, 0, 1, 2, 3, 7, 8, 12, 20, 31, 32, 60, 99, 1000,
        Integer.MAX_VALUE};
    private static final String FULL = "power a;power b;power c;power d;layer a of a thick 20 wet 20;layer b of b thick 1 wet 3;"
        + "layer c of c thick 2 wet 9;layer d of d thick 3;layer e of a thick 4 wet 1;layer f of b thick 9;layer g of c thick 8;"
        + "layer h of d thick 7 wet 7;";

    private static long state = 7;

    private RobustTests() { }

    public static void main(String[] args) throws Exception {
        String[] tables = {"", "power a;", FULL, FULL + "slips 1;", FULL + "slips 0;sun 100;damps 30;pick 8;draw 999;",
            FULL + "slips (wet*wet*wet*wet*wet*wet*wet*wet)/(day-1)%(foes-1)-damp;damps 0;",
            FULL + "slips 1024*1024*1024*2/(0-1)%(0-1)/(below-2);"};
        for (String table : tables) {
            for (Method method : SandwichTreaty.class.getDeclaredMethods()) {
                if (Modifier.isPublic(method.getModifiers())) {
                    callAll(method, table);
                }
            }
        }
        noise();
        Check.finish("RobustTests");
    }

    private static int draw(int bound) {
        state = state * 6364136223846793005L + 1442695040888963407L;
        return (int) ((state >>> 33) % bound);
    }

    private static void call(Method method, SandwichTreaty x) throws IllegalAccessException {
        Object[] values = new Object[method.getParameterCount()];
        for (int i = 0; i < values.length; i++) {
            int number = NUMBERS[draw(NUMBERS.length)];
            values[i] = method.getParameterTypes()[i] == boolean.class ? (Object) (number > 0) : (Object) number;
        }
        boolean fine = true;
        try {
            method.invoke(x, values);
        } catch (InvocationTargetException e) {
            fine = false;
            System.out.println(method + ": " + e.getCause());
        }
        Check.due(method + " ends by itself", true, fine);
    }

    private static void callAll(Method method, String table) throws IllegalAccessException {
        SandwichTreaty x = Check.told(table);
        Method[] others = SandwichTreaty.class.getMethods();
        for (int i = 0; i < 400; i++) {
            Method other = others[draw(others.length)];
            boolean isOwn = other.getDeclaringClass() == SandwichTreaty.class;
            call(isOwn && i % 3 == 0 && !other.getName().equals("table") ? other : method, x);
        }
    }

    /** Texts put together of parts of tables, mostly faulty: the fault's place is in the text or at its end. */
    private static void noise() {
        String[] parts = {"power", "layer", "of", "thick", "wet", "slips", "damps", "pick", "sun", "draw", "or", "and", "not",
            "above", "below", "damp", "foes", "day", "a", "b", "c", "1", "0", "20", "9999", ";", ";", ";", "(", ")", "<", ">",
            "=", "+", "-", "*", "/", "%", " ", "\n", "power a;", "layer b of a thick 2;", "slips 1+", "slips not(", "$", "A"};
        for (int run = 0; run < 20000; run++) {
            StringBuilder text = new StringBuilder();
            int count = draw(12);
            for (int i = 0; i < count; i++) {
                text.append(parts[draw(parts.length)]).append(draw(3) == 0 ? "" : " ");
            }
            SandwichTreaty x = new SandwichTreaty();
            int layers = Check.tell(x, text.toString());
            boolean isFault = x.fault(0) >= 1 && x.fault(0) <= 5 && x.fault(1) >= 0 && x.fault(1) <= text.length();
            boolean isFine = x.fault(0) == 0 && x.fault(1) == -1;
            Check.due("a fault or none: " + text, true, layers < 0 ? isFault : isFine);
        }
    }
}
