import java.nio.charset.StandardCharsets;

/** What the tests of the project share: counted checks, and texts fed to an island. */
final class Checks {
    interface Call {
        long answer();
    }

    private static int wrong = 0;
    private static int done = 0;

    private Checks() {
    }

    static void is(String what, long got, long want) {
        done++;
        if (got != want) {
            wrong++;
            System.out.println(what + " answered " + got + ", due is " + want);
        }
    }

    static void is(String what, boolean got, boolean want) {
        is(what, got ? 1 : 0, want ? 1 : 0);
    }

    /** The call throws this very class, no class below it. */
    static void refused(String what, Class<? extends RuntimeException> due, Call call) {
        done++;
        String got;
        try {
            got = "answered " + call.answer();
        } catch (RuntimeException e) {
            if (e.getClass() == due) {
                return;
            }
            got = "threw " + e.getClass().getSimpleName();
        }
        wrong++;
        System.out.println(what + " " + got + ", due is " + due.getSimpleName());
    }

    static void outside(String what, Call call) {
        refused(what, IndexOutOfBoundsException.class, call);
    }

    static void none(String what, Call call) {
        refused(what, IllegalArgumentException.class, call);
    }

    static void nothing(String what, Call call) {
        refused(what, java.util.NoSuchElementException.class, call);
    }

    static void ends() {
        System.out.println(done + " checks, " + wrong + " wrong");
        if (wrong != 0) {
            System.exit(1);
        }
    }

    static void feed(HalfIsle isle, byte[] bytes) {
        for (int i = 0; i < bytes.length; i += 20) {
            int[] five = new int[5];
            for (int k = 0; k < 20 && i + k < bytes.length; k++) {
                five[k / 4] |= (bytes[i + k] & 255) << (24 - 8 * (k % 4));
            }
            isle.feed(five[0], five[1], five[2], five[3], five[4]);
        }
        isle.end(bytes.length);
    }

    static void feed(HalfIsle isle, String text) {
        feed(isle, text.getBytes(StandardCharsets.ISO_8859_1));
    }

    static int deed(HalfIsle isle, String text) {
        feed(isle, text);
        return isle.deed();
    }

    static int law(HalfIsle isle, String text) {
        feed(isle, text);
        return isle.law();
    }

    /** A text of THE DEED that is wrong at this byte. */
    static void wrongDeed(HalfIsle isle, String text, int at) {
        none("deed of '" + text + "'", () -> deed(isle, text));
        is("fault of '" + text + "'", isle.fault(), at);
    }

    static void wrongLaw(HalfIsle isle, String text, int at) {
        none("law of '" + text + "'", () -> law(isle, text));
        is("fault of '" + text + "'", isle.fault(), at);
    }

    static void rightLaw(HalfIsle isle, String text, int lines) {
        is("law of '" + text + "'", law(isle, text), lines);
        is("fault of '" + text + "'", isle.fault(), HalfIsle.NONE);
    }

    static HalfIsle isle(String deed) {
        HalfIsle isle = new HalfIsle();
        deed(isle, deed);
        return isle;
    }

    static HalfIsle isle(String deed, String law) {
        HalfIsle isle = isle(deed);
        law(isle, law);
        return isle;
    }

    static int traces(HalfIsle isle, boolean sure, int... bytes) {
        feedTraces(isle, bytes);
        return isle.traces(sure);
    }

    static int look(HalfIsle isle, int... bytes) {
        feedTraces(isle, bytes);
        return isle.look();
    }

    private static void feedTraces(HalfIsle isle, int[] numbers) {
        byte[] bytes = new byte[numbers.length];
        for (int i = 0; i < bytes.length; i++) {
            bytes[i] = (byte) numbers[i];
        }
        feed(isle, bytes);
    }
}
