/** Promises 44 and 45: traces and where to look next. */
public final class TracesTest {
    public static void main(String[] args) {
        traces();
        look();
        wrong();
        Checks.ends();
    }

    private static void traces() {
        HalfIsle isle = new HalfIsle();
        Checks.is("ways untold", Checks.traces(isle, false), 36);
        Checks.is("sure untold", Checks.traces(isle, true), 0);
        // through 0: of each of the lengths 1 to 6 as many
        Checks.is("ways through 0", Checks.traces(isle, false, 0, 1), 21);
        Checks.is("sure through 0", Checks.traces(isle, true, 0, 1), 1);
        Checks.is("ways beside 0", Checks.traces(isle, false, 0, 0), 15);
        Checks.is("sure beside 0", Checks.traces(isle, true, 0, 0), 0);
        // there at 4 and 1, not at 3: from 4 to 1 at least, by 5 and 0
        Checks.is("ways over 5 to 0", Checks.traces(isle, false, 4, 1, 1, 1, 3, 0), 2);
        Checks.is("sure over 5 to 0", Checks.traces(isle, true, 4, 1, 1, 1, 3, 0), 16 + 32 + 1 + 2);
        Checks.is("it stayed", Checks.traces(isle, false, 2, 1, 3, 0, 1, 0), 1);
        Checks.is("where it stayed", Checks.traces(isle, true, 2, 1, 3, 0, 1, 0), 4);
        Checks.is("it stayed at 0", Checks.traces(isle, true, 0, 1, 1, 0, 5, 0), 1);
        Checks.is("it stayed at 5", Checks.traces(isle, true, 5, 1, 0, 0, 4, 0), 32);
        Checks.is("all round", Checks.traces(isle, false, 0, 1, 1, 1, 2, 1, 3, 1, 4, 1, 5, 1), 6);
        Checks.is("told twice", Checks.traces(isle, false, 0, 1, 0, 1), 21);
        Checks.is("told both", Checks.traces(isle, false, 0, 1, 0, 0), 0);
        Checks.is("none is sure", Checks.traces(isle, true, 0, 1, 0, 0), 0);
        Checks.is("nowhere", Checks.traces(isle, false, 0, 0, 1, 0, 2, 0, 3, 0, 4, 0, 5, 0), 0);
    }

    private static void look() {
        HalfIsle isle = new HalfIsle();
        Checks.is("LOOK untold", Checks.look(isle), 0);
        Checks.is("LOOK with 9 ways", Checks.look(isle, 0, 1, 3, 0), 1);
        // ways from 4 to 1 and to 2: 2 alone parts them
        Checks.is("LOOK with 2 ways", Checks.look(isle, 4, 1, 1, 1, 3, 0), 2);
        Checks.is("LOOK with 1 way", Checks.look(isle, 2, 1, 3, 0, 1, 0), HalfIsle.NONE);
        Checks.is("LOOK with none", Checks.look(isle, 2, 1, 2, 0), HalfIsle.NONE);
        // all round: none parts them, and 0 is the least
        Checks.is("LOOK all round", Checks.look(isle, 0, 1, 1, 1, 2, 1, 3, 1, 4, 1, 5, 1), 0);
        // 15 ways from 1 to 5: through 1 go 5 of them, through 2 8, through 3 9
        Checks.is("LOOK beside", Checks.look(isle, 0, 0), 2);
    }

    private static void wrong() {
        HalfIsle isle = new HalfIsle();
        int[] twenty = new int[40];
        for (int i = 1; i < 40; i += 2) {
            twenty[i] = 1;
        }
        Checks.is("40 bytes", Checks.traces(isle, false, twenty), 21);
        int[] more = java.util.Arrays.copyOf(twenty, 42);
        more[41] = 1;
        Checks.none("42 bytes", () -> Checks.traces(isle, false, more));
        Checks.is("the TAPE was used up", isle.end(1), false);
        Checks.none("42 bytes to look", () -> Checks.look(isle, more));
        Checks.is("the TAPE was used up by look", isle.end(1), false);
        Checks.none("ROOM 6", () -> Checks.traces(isle, true, 6, 1));
        Checks.none("ROOM 255", () -> Checks.look(isle, 255, 1));
        Checks.none("neither", () -> Checks.traces(isle, true, 0, 2));
        Checks.none("neither to look", () -> Checks.look(isle, 5, 1, 0, 128));
        Checks.none("half a one", () -> Checks.traces(isle, false, 0, 1, 1));
        Checks.none("half a one to look", () -> Checks.look(isle, 0));
        Checks.is("no text was read", isle.fault(), HalfIsle.NONE);
    }
}
