import java.lang.reflect.InvocationTargetException;
import java.lang.reflect.Method;
import java.lang.reflect.Modifier;
import java.nio.charset.StandardCharsets;
import java.util.ArrayList;
import java.util.List;
import java.util.Random;

/** Long runs of calls, each told to HalfIsle and to the plain model: both must say the same. */
public final class ModelTest {
    private static final String[] WORDS = {"item", "home", "side", "in", "hands", "soil", "places", "storm", "worn",
        "day", "wear", "shift", "if", "or", "and", "not", "own", "room", "value", "soiled", ";", "(", ")", "<", ">",
        "+", "0", "1", "5", "6", "12", "20", "99", "100", "999", "1000", "x", "A", "\351", "\t", "007"};

    private final Random dice;
    private final HalfIsle isle = new HalfIsle();
    private final Model model = new Model();
    private final List<String> told = new ArrayList<>();
    private int calls = 0;

    private ModelTest(long seed) {
        dice = new Random(seed);
    }

    public static void main(String[] args) {
        int runs = args.length > 0 ? Integer.parseInt(args[0]) : 40;
        int first = args.length > 1 ? Integer.parseInt(args[1]) : 0;
        for (int seed = first; seed < first + runs; seed++) {
            ModelTest test = new ModelTest(seed);
            String unlike = test.run();
            if (unlike != null) {
                System.out.println("seed " + seed + ": " + unlike);
                for (String call : test.told) {
                    System.out.println("  " + call);
                }
                System.exit(1);
            }
        }
        System.out.println(runs + " runs are like the model's");
    }

    private String run() {
        String unlike = begin();
        while (unlike == null && calls < 500) {
            int n = dice.nextInt(100);
            if (n < 3) {
                unlike = text(mutated(deed(dice.nextInt(4) + 1)), "deed");
            } else if (n < 7) {
                unlike = text(mutated(law()), "law");
            } else if (n < 11) {
                unlike = traces();
            } else if (n < 30) {
                unlike = act();
            } else {
                unlike = ask();
            }
        }
        return unlike;
    }

    private String begin() {
        String unlike = dice.nextInt(10) == 0 ? null : text(deed(dice.nextInt(14) + 1), "deed");
        return unlike != null || dice.nextInt(10) == 0 ? unlike : text(law(), "law");
    }

    private String deed(int lines) {
        StringBuilder out = new StringBuilder();
        int items = model.s.items.size();
        for (int i = 0; i < lines; i++) {
            out.append(i == 0 ? "" : gap() + ";" + gap());
            int kind = dice.nextInt(12);
            if (kind < 6 && items < 12 || items == 0 && kind == 6) {
                items++;
                out.append("item ").append(1 + dice.nextInt(99)).append(" home").append(dice.nextInt(6));
                out.append(" side ").append(dice.nextInt(2));
                out.append(dice.nextInt(3) == 0 ? gap() + "in " + dice.nextInt(6) : "");
            } else if (kind == 7) {
                out.append("hands ").append(dice.nextInt(2)).append(" ").append(dice.nextInt(21));
            } else if (kind == 8) {
                out.append("soil ").append(dice.nextInt(6)).append(" ").append(dice.nextInt(100));
            } else if (kind == 9) {
                out.append("places ").append(dice.nextInt(6)).append(" ").append(dice.nextInt(13));
            } else if (kind == 10) {
                out.append("storm ").append(dice.nextInt(101));
            } else if (kind == 11 || items == 0) {
                out.append("day ").append(dice.nextInt(1000));
            } else {
                out.append("worn ").append(dice.nextInt(items)).append(" ").append(dice.nextInt(100));
            }
        }
        return out.length() > 400 ? deed(lines - 1) : out.toString();
    }

    private String law() {
        StringBuilder out = new StringBuilder();
        int lines = 1 + dice.nextInt(dice.nextInt(4) == 0 ? 12 : 5);
        for (int i = 0; i < lines; i++) {
            out.append(i == 0 ? "" : gap() + ";" + gap());
            out.append(pick("wear", "shift", "soil")).append(" ").append(dice.nextInt(dice.nextInt(4) == 0 ? 21 : 3));
            if (dice.nextInt(4) > 0) {
                out.append(" if ").append(anyOf(dice.nextInt(4)));
            }
        }
        return out.length() > 400 ? law() : out.toString();
    }

    private String anyOf(int deep) {
        String one = allOf(deep);
        return dice.nextInt(3) == 0 ? one + " or " + allOf(deep) : one;
    }

    private String allOf(int deep) {
        String one = atom(deep);
        return dice.nextInt(3) == 0 ? one + " and " + atom(deep) : one;
    }

    private String atom(int deep) {
        if (deep > 0) {
            switch (dice.nextInt(4)) {
                case 0: return "not " + atom(deep - 1);
                case 1: return "(" + gap() + anyOf(deep - 1) + gap() + ")";
                default: break;
            }
        }
        switch (dice.nextInt(5)) {
            case 0: return "own";
            case 1: return "home";
            default: return sum() + gap() + pick("<", ">") + gap() + sum();
        }
    }

    private String sum() {
        String one = part();
        return dice.nextInt(3) == 0 ? one + gap() + "+" + gap() + part() : one;
    }

    private String part() {
        if (dice.nextBoolean()) {
            int[] most = {4, 12, 100, 200};
            return Integer.toString(dice.nextInt(most[dice.nextInt(most.length)]));
        }
        return pick("item", "room", "worn", "value", "side", "day", "soiled");
    }

    private String gap() {
        return dice.nextBoolean() ? "" : " ".repeat(dice.nextInt(3));
    }

    private String pick(String... words) {
        return words[dice.nextInt(words.length)];
    }

    private String mutated(String text) {
        if (dice.nextBoolean()) {
            return text;
        }
        int at = dice.nextInt(text.length() + 1);
        switch (dice.nextInt(5)) {
            case 0: return text.substring(0, at);
            case 1: return text.substring(0, at) + pick(WORDS) + text.substring(at);
            case 2: return text.substring(0, at) + " " + pick(WORDS) + " " + text.substring(at);
            case 3: return text.substring(0, at) + text.substring(Math.min(text.length(), at + 1 + dice.nextInt(6)));
            default: return dice.nextBoolean() ? " ".repeat(dice.nextInt(3)) : text + text.substring(0, at);
        }
    }

    private String text(String text, String reader) {
        String fitting = text.length() > 400 ? text.substring(0, 400) : text;
        told.add("text: " + fitting);
        byte[] bytes = fitting.getBytes(StandardCharsets.ISO_8859_1);
        String unlike = tape(bytes);
        unlike = unlike != null ? unlike : both(reader);
        return unlike != null ? unlike : both("fault");
    }

    private String tape(byte[] bytes) {
        String unlike = null;
        for (int i = 0; i < bytes.length && unlike == null; i += 20) {
            int[] five = new int[5];
            for (int k = 0; k < 20 && i + k < bytes.length; k++) {
                five[k / 4] |= (bytes[i + k] & 255) << (24 - 8 * (k % 4));
            }
            unlike = both("feed", five);
        }
        return unlike != null ? unlike : both("end", bytes.length);
    }

    private String traces() {
        byte[] bytes = new byte[2 * dice.nextInt(dice.nextInt(5) == 0 ? 23 : 4) + (dice.nextInt(12) == 0 ? 1 : 0)];
        for (int i = 0; i < bytes.length; i++) {
            bytes[i] = (byte) (i % 2 == 0 ? dice.nextInt(6) : dice.nextInt(2));
            if (dice.nextInt(40) == 0) {
                bytes[i] = (byte) dice.nextInt(256);
            }
        }
        String unlike = tape(bytes);
        if (unlike != null) {
            return unlike;
        }
        return dice.nextInt(3) == 0 ? both("look") : both("traces", dice.nextInt(2));
    }

    private String act() {
        switch (dice.nextInt(14)) {
            case 0: case 1: return both("carry", item(), number(6));
            case 2: return both("mend", item());
            case 3: return both("sweep", number(6));
            case 4: return both("pay", number(2), 1 + dice.nextInt(Math.max(5, model.s.owes[0])));
            case 5: return both("take");
            case 6: case 7: return both("days", dice.nextInt(8) == 0 ? 400 : number(402));
            case 8: return both("days", 1 + dice.nextInt(5));
            case 9: return both("undo");
            case 10: return both("undo");
            case 11: return both("seed", dice.nextInt());
            case 12: return both("image");
            default: return dice.nextInt(3) == 0 ? both("back") : both("undo");
        }
    }

    private String ask() {
        switch (dice.nextInt(46)) {
            case 0: case 1: return both("item", item(), number(10));
            case 2: case 3: return both("room", number(6), number(4));
            case 4: case 5: case 6: return both("side", number(2), number(5));
            case 7: case 8: return both("does", item(), number(3));
            case 9: return both("steps", number(6), number(6));
            case 10: case 11: return both("ahead", item(), number(401), number(3));
            case 12: return both("missing");
            case 13: return both("worse");
            case 14: return both("mislaid");
            case 15: return both("work");
            case 16: return both("first", dice.nextInt(2));
            case 17: return both("round");
            case 18: return both("worst", number(401));
            case 19: return both("saves", dice.nextBoolean() ? dice.nextInt(12) : number(100), dice.nextInt(2));
            case 20: return both("search", number(6));
            case 21: return both("costs");
            case 22: return both("calm", number(7), number(8));
            case 23: return both("boats", number(1000), number(100), number(10));
            case 24: return both("rests");
            case 25: return both("due");
            case 26: return both("lighten", dice.nextBoolean() ? number(300) : dice.nextInt(20) * 7 + model.s.due() / 2);
            case 27: return both("wearing", item());
            case 28: return both("meets", item(), item());
            case 29: return both("visits", item(), number(61));
            case 30: return both("crowd", number(401));
            case 31: return both("stays", item());
            case 32: return both("parted", dice.nextInt(2));
            case 33: return both("clash");
            case 34: return both("full");
            case 35: return both("settles");
            case 36: return both("richest");
            case 37: return both("like");
            case 38: return both("trial", number(401), dice.nextInt(2));
            case 39: return both("span", number(401), dice.nextInt(2));
            case 40: return both("led", number(2), dice.nextInt(2));
            case 41: return both("log", number(5), number(4));
            case 42: return both("log", dice.nextInt(62), dice.nextInt(4));
            case 43: return both("end", number(30));
            default: return both("count", number(12));
        }
    }

    private int item() {
        return dice.nextInt(20) == 0 ? dice.nextInt(16) - 2 : dice.nextInt(Math.max(1, model.s.items.size()));
    }

    /** Mostly 0 to one less, now and then just beside it. */
    private int number(int size) {
        int[] beside = {-1, size - 1, size, size + 1, Integer.MIN_VALUE, Integer.MAX_VALUE};
        return dice.nextInt(15) == 0 ? beside[dice.nextInt(beside.length)] : dice.nextInt(size);
    }

    private String both(String name, int... args) {
        calls++;
        String want;
        try {
            want = Long.toString(model.call(name, args));
        } catch (RuntimeException e) {
            want = e.getClass().getSimpleName();
        }
        String got = faceAnswer(name, args);
        told.add(name + java.util.Arrays.toString(args) + " " + got);
        return got.equals(want) ? null : name + java.util.Arrays.toString(args) + " answered " + got + ", due is " + want;
    }

    private String faceAnswer(String name, int[] args) {
        Method method = method(name);
        Class<?>[] kinds = method.getParameterTypes();
        Object[] given = new Object[kinds.length];
        for (int i = 0; i < kinds.length; i++) {
            given[i] = kinds[i] == boolean.class ? (Object) (args[i] == 1) : (Object) args[i];
        }
        try {
            Object answer = method.invoke(isle, given);
            return answer == null ? "0" : answer instanceof Boolean b ? (b ? "1" : "0") : answer.toString();
        } catch (InvocationTargetException e) {
            return e.getCause().getClass().getSimpleName();
        } catch (IllegalAccessException e) {
            return e.toString();
        }
    }

    private static Method method(String name) {
        for (Method method : HalfIsle.class.getDeclaredMethods()) {
            if (method.getName().equals(name) && Modifier.isPublic(method.getModifiers())) {
                return method;
            }
        }
        throw new AssertionError(name);
    }
}
