import java.lang.reflect.InvocationTargetException;
import java.lang.reflect.Method;
import java.util.Arrays;
import java.util.Random;

/** Long runs of calls by chance (with fixed seeds), each answer held against that of PlainDinner. */
public final class WalkTest {
    private static final String[] MOVES = {"begin", "ask", "ask", "ask", "prove", "leave", "accuse", "play", "undo"};
    private static final String[] LOOKS = {"guest", "value", "question", "deals", "dealsWith", "dealsHeld",
        "culprits", "likeliest", "chance", "dealsIf", "worst", "bestCards", "leftByProof", "digest"};
    private static final int CALLS = 512;

    private final Random random;
    private final int wild;
    private final SecretDinner house = new SecretDinner();
    private final PlainDinner plain = new PlainDinner();
    private int calls;

    private WalkTest(long seed) {
        random = new Random(seed);
        wild = seed % 3 == 0 ? 4 : 40;
    }

    public static void main(String[] args) {
        for (int seed = 1; seed <= 60; seed++) {
            new WalkTest(seed).walk(seed);
        }
        Check.end();
    }

    private void walk(int seed) {
        while (calls < CALLS) {
            if (random.nextInt(12) == 0) {
                writeText(seed);
            }
            boolean moves = random.nextInt(100) < 45;
            String name = moves ? MOVES[random.nextInt(MOVES.length)] : LOOKS[random.nextInt(LOOKS.length)];
            if ((name.equals("accuse") || name.equals("leave")) && random.nextInt(3) > 0) {
                name = "ask";
            }
            if (name.equals("bestCards") && random.nextInt(4) > 0) {
                name = "worst";
            }
            compare(seed, name, arguments(name));
            compare(seed, "digest", new Object[0]);
        }
    }

    private void writeText(int seed) {
        compare(seed, "clearText", new Object[0]);
        String text = randomText();
        for (int i = 0; i < text.length(); i++) {
            compare(seed, "append", new Object[] {(int) text.charAt(i)});
        }
        compare(seed, "play", new Object[0]);
    }

    private String randomText() {
        StringBuilder text = new StringBuilder();
        int items = random.nextInt(6);
        for (int item = 0; item < items; item++) {
            char kind = "aaalpg".charAt(random.nextInt(6));
            text.append(kind).append(random.nextInt(random.nextInt(4) == 0 ? 4 : 3));
            if (kind == 'p') {
                text.append(':').append(random.nextInt(8));
            } else if (kind != 'g') {
                text.append(':');
                int cards = 1 + random.nextInt(255);
                for (int card = 0; card < 8; card++) {
                    text.append((cards & 1 << card) != 0 ? String.valueOf(card) : "");
                }
            }
            text.append(';');
        }
        if (text.length() > 0 && random.nextInt(3) == 0) {
            text.setCharAt(random.nextInt(text.length()), "alpg0378:;/ \n".charAt(random.nextInt(13)));
        }
        if (text.length() > 0 && random.nextInt(6) == 0) {
            text.setLength(random.nextInt(text.length()));
        }
        return text.toString();
    }

    /** An argument from 0 to the limit, or at times one at the edges or beyond them. */
    private int number(int limit) {
        if (random.nextInt(wild) == 0) {
            int[] odd = {-1, limit + 1, -2, limit + 2, Integer.MIN_VALUE, Integer.MAX_VALUE, 0, limit};
            return odd[random.nextInt(odd.length)];
        }
        return random.nextInt(limit + 1);
    }

    private int anyGuest() {
        return number(random.nextInt(6) == 0 ? 3 : 2);
    }

    private Object[] arguments(String name) {
        return switch (name) {
            case "begin" -> new Object[] {random.nextInt(wild) == 0 ? number(5) : 3 + random.nextInt(2),
                random.nextBoolean() ? -1 : number(999999)};
            case "ask" -> new Object[] {anyGuest(), number(255), random.nextInt(4) == 0};
            case "prove", "dealsHeld", "leftByProof" -> new Object[] {anyGuest(), number(7)};
            case "leave", "bestCards" -> new Object[] {anyGuest()};
            case "accuse", "dealsWith", "chance" -> new Object[] {number(7)};
            case "guest" -> new Object[] {anyGuest(), number(7)};
            case "value" -> new Object[] {number(9)};
            case "question" -> new Object[] {number(8), number(2)};
            case "dealsIf" -> new Object[] {anyGuest(), number(255), number(random.nextBoolean() ? 3 : 8)};
            case "worst" -> new Object[] {anyGuest(), number(255)};
            default -> new Object[0];
        };
    }

    private void compare(int seed, String name, Object[] arguments) {
        if (calls >= CALLS) {
            return;
        }
        calls++;
        String call = "walk " + seed + ": " + name + Arrays.toString(arguments);
        Check.due(call, outcome(house, name, arguments), outcome(plain, name, arguments));
    }

    private static String outcome(Object on, String name, Object[] arguments) {
        for (Method method : on.getClass().getMethods()) {
            if (method.getName().equals(name) && method.getParameterCount() == arguments.length) {
                return outcome(on, method, arguments);
            }
        }
        return "no such method";
    }

    private static String outcome(Object on, Method method, Object[] arguments) {
        try {
            return String.valueOf(method.invoke(on, arguments));
        } catch (InvocationTargetException e) {
            return "throws " + e.getCause().getClass().getName();
        } catch (IllegalAccessException e) {
            return "cannot be called";
        }
    }
}
