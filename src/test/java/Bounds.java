import java.io.IOException;
import java.nio.file.Files;
import java.nio.file.Path;
import java.util.ArrayList;
import java.util.List;

/**
 * What the tests of boundary cases share. Each is told with the promise (or "Terms", with the calls that it is
 * about) and the words of the document that it holds to; these words must stand in that section of the document.
 */
abstract class Bounds {
    interface Body {
        void runs();
    }

    private static final Path DOCUMENT = Path.of("..", "shared", "DOC.md");
    private static final List<String> tested = new ArrayList<>();
    private static String document = null;
    private static String told = "";
    private static int checked = 0;

    static void test(String where, String sentence, Body body) {
        told = where + ", \"" + sentence + "\"";
        Checks.is(told + ": stands there", stands(where, sentence), true);
        Checks.is(told + ": is the only test of it", tested.contains(told), false);
        tested.add(told);
        int before = checked;
        try {
            body.runs();
        } catch (RuntimeException e) {
            Checks.is(told + ": stopped by " + e.getClass().getSimpleName(), 1, 0);
        }
        Checks.is(told + ": has been checked", checked > before, true);
    }

    /** Each promise of the document is told of by a test. */
    static void ends() {
        for (String heading : headings()) {
            String name = heading.replace(":", "");
            boolean found = false;
            for (String test : tested) {
                String where = test.substring(0, test.indexOf(", \""));
                found |= where.equals("Promise " + name) || (where + ",").contains(" " + name + ",");
            }
            Checks.is("promise " + name + " has a test", found, true);
        }
        System.out.println(tested.size() + " boundary cases");
        Checks.ends();
    }

    private static List<String> headings() {
        List<String> names = new ArrayList<>();
        for (String line : document().split("\n")) {
            if (line.startsWith("## Promise ")) {
                names.add(line.substring("## Promise ".length()).strip());
            }
        }
        return names;
    }

    private static boolean stands(String where, String sentence) {
        String heading = where.startsWith("Promise ")
                ? "## " + where.replaceFirst("^(Promise \\d+)", "$1:")
                : "## " + where.replaceFirst(",.*", "");
        String text = "\n" + document();
        int begin = text.indexOf("\n" + heading + "\n");
        if (document().isEmpty() || begin < 0) {
            return document().isEmpty();
        }
        int next = text.indexOf("\n## ", begin + 1);
        String section = next < 0 ? text.substring(begin) : text.substring(begin, next);
        return section.replaceAll("\\s+", " ").contains(sentence);
    }

    /** The document; without its file nothing can be compared, and there is no text. */
    private static String document() {
        if (document == null) {
            try {
                document = Files.readString(DOCUMENT);
            } catch (IOException e) {
                System.out.println("the document is not at " + DOCUMENT + ": sentences are not compared");
                document = "";
            }
        }
        return document;
    }

    static void is(long got, long want) {
        checked++;
        Checks.is(told, got, want);
    }

    static void is(boolean got, boolean want) {
        checked++;
        Checks.is(told, got, want);
    }

    static void outside(Checks.Call call) {
        checked++;
        Checks.outside(told, call);
    }

    static void none(Checks.Call call) {
        checked++;
        Checks.none(told, call);
    }

    static void nothing(Checks.Call call) {
        checked++;
        Checks.nothing(told, call);
    }

    static void toomany(Checks.Call call) {
        checked++;
        Checks.refused(told, UnsupportedOperationException.class, call);
    }

    static HalfIsle isle(String deed) {
        return Checks.isle(deed);
    }

    static HalfIsle isle(String deed, String law) {
        return Checks.isle(deed, law);
    }

    static int deed(HalfIsle isle, String text) {
        return Checks.deed(isle, text);
    }

    static int law(HalfIsle isle, String text) {
        return Checks.law(isle, text);
    }

    /** A text of THE DEED is wrong at this byte. */
    static void wrongDeed(HalfIsle isle, String text, int at) {
        none(() -> deed(isle, text));
        is(isle.fault(), at);
    }

    static void wrongLaw(HalfIsle isle, String text, int at) {
        none(() -> law(isle, text));
        is(isle.fault(), at);
    }

    static void rightLaw(String text, int lines) {
        HalfIsle isle = new HalfIsle();
        is(law(isle, text), lines);
        is(isle.fault(), HalfIsle.NONE);
    }

    /** So many DAYS, more than one call may have. */
    static int days(HalfIsle isle, int n) {
        int equinoxes = 0;
        for (int left = n; left > 0; left -= 400) {
            equinoxes += isle.days(Math.min(left, 400));
        }
        return equinoxes;
    }

    /** The same LINE so many times. */
    static String lines(String line, int n) {
        StringBuilder text = new StringBuilder(line);
        for (int i = 1; i < n; i++) {
            text.append(';').append(line);
        }
        return text.toString();
    }
}
