/** Boundary cases of TRACES and LOOK: promises 44 and 45. */
final class BoundsOfTraces extends Bounds {
    static void test() {
        tape();
        waysThatFit();
        looks();
    }

    private static int ways(int... bytes) {
        return Checks.traces(new HalfIsle(), false, bytes);
    }

    private static int sure(int... bytes) {
        return Checks.traces(new HalfIsle(), true, bytes);
    }

    private static int look(int... bytes) {
        return Checks.look(new HalfIsle(), bytes);
    }

    /** So many times that it was in a ROOM. */
    private static int[] told(int times, int room) {
        int[] bytes = new int[2 * times];
        for (int i = 0; i < times; i++) {
            bytes[2 * i] = room;
            bytes[2 * i + 1] = 1;
        }
        return bytes;
    }

    private static void refusesAll(java.util.function.ToIntFunction<int[]> call) {
        none(() -> call.applyAsInt(told(21, 0)));
        none(() -> call.applyAsInt(told(200, 0)));
        none(() -> call.applyAsInt(new int[] {0}));
        none(() -> call.applyAsInt(new int[] {0, 1, 0}));
        none(() -> call.applyAsInt(java.util.Arrays.copyOf(told(21, 0), 41)));
        none(() -> call.applyAsInt(new int[] {6, 1}));
        none(() -> call.applyAsInt(new int[] {6, 0}));
        none(() -> call.applyAsInt(new int[] {255, 1}));
        none(() -> call.applyAsInt(new int[] {0, 2}));
        none(() -> call.applyAsInt(new int[] {0, 255}));
        none(() -> call.applyAsInt(new int[] {0, 1, 5, 1, 6, 1}));
        none(() -> call.applyAsInt(new int[] {0, 1, 5, 1, 5, 2}));
    }

    private static void tape() {
        test("Promise 44 traces", "of each two bytes: ROOM, 1 or 0; 40 bytes at most", () -> {
            is(ways(told(20, 0)), 21);
            is(ways(0, 1), 21);
            is(ways(5, 1), 21);
            is(ways(0, 0), 15);
            is(ways(5, 0), 15);
        });
        test("Promise 44 traces", "IllegalArgumentException: the TAPE is not that (none may be told).", () -> {
            refusesAll(BoundsOfTraces::ways);
            refusesAll(BoundsOfTraces::sure);
            is(ways(), 36);
            is(sure(), 0);
        });
        test("Promise 44 traces", "Uses the TAPE up", () -> {
            HalfIsle isle = new HalfIsle();
            is(Checks.traces(isle, false, 0, 1), 21);
            is(isle.end(1), false);
            none(() -> Checks.traces(isle, false, 6, 1));
            is(isle.end(1), false);
            none(() -> Checks.traces(isle, true, 0));
            is(isle.end(1), false);
            is(isle.feed(0, 0, 0, 0, 0), 20);
        });
        test("Promise 45 look", "IllegalArgumentException: the TAPE is not that.", () -> {
            refusesAll(BoundsOfTraces::look);
            is(look(told(20, 0)), 3);
        });
        test("Promise 45 look", "Uses the TAPE up", () -> {
            HalfIsle isle = new HalfIsle();
            is(Checks.look(isle, 0, 1, 5, 0, 2, 0), 1);
            is(isle.end(1), false);
            none(() -> Checks.look(isle, 0, 2));
            is(isle.end(1), false);
        });
    }

    private static void waysThatFit() {
        test("Terms, TRACES", "from each to the next higher one (5 to 0)", () -> {
            // 5 and 0 and neither 1 nor 4: from 5 to 0 alone
            is(ways(5, 1, 0, 1, 1, 0, 4, 0), 1);
            is(sure(5, 1, 0, 1, 1, 0, 4, 0), 33);
            // it never goes to a lower one: 0 and 5 without 4 are 5, 0 and on, not 0, 5
            is(ways(0, 1, 5, 1, 4, 0), 4);
        });
        test("Terms, TRACES", "at most once round (from one to the same one: it stayed)", () -> {
            is(ways(3, 1, 2, 0, 4, 0), 1);
            is(sure(3, 1, 2, 0, 4, 0), 8);
            is(ways(0, 1, 5, 0, 1, 0), 1);
            is(sure(0, 1, 5, 0, 1, 0), 1);
            is(ways(5, 1, 4, 0, 0, 0), 1);
            is(sure(5, 1, 4, 0, 0, 0), 32);
            // all six: from each to the one below it, and no more
            is(ways(0, 1, 1, 1, 2, 1, 3, 1, 4, 1, 5, 1), 6);
            is(sure(0, 1, 1, 1, 2, 1, 3, 1, 4, 1, 5, 1), 63);
        });
        test("Terms, TRACES", "told are ROOMS and whether it was there (1: yes, 0: no; the first and the last one, too)", () -> {
            is(ways(2, 1, 3, 1, 1, 0, 4, 0), 1);
            is(sure(2, 1, 3, 1, 1, 0, 4, 0), 12);
            is(ways(2, 0, 3, 0), 10);
        });
        test("Terms, TRACES", "ROOMS that are in all of these, as bits (0 without)", () -> {
            is(ways(0, 1, 0, 0), 0);
            is(sure(0, 1, 0, 0), 0);
            is(ways(0, 0, 1, 0, 2, 0, 3, 0, 4, 0, 5, 0), 0);
            is(sure(0, 0, 1, 0, 2, 0, 3, 0, 4, 0, 5, 0), 0);
            is(sure(0, 1), 1);
            is(sure(0, 0), 0);
            // from 0 or from 5, over 0, to 2
            is(sure(0, 1, 2, 1, 3, 0, 4, 0), 7);
        });
    }

    private static void looks() {
        test("Terms, LOOK", "(of several the least; none with fewer than two).", () -> {
            // of all 36 each ROOM is in 21
            is(look(), 0);
            is(look(0, 1, 0, 0), HalfIsle.NONE);
            is(look(5, 1, 0, 1, 1, 0, 4, 0), HalfIsle.NONE);
            // two: 0 alone, or on to 1
            is(ways(0, 1, 5, 0, 2, 0), 2);
            is(look(0, 1, 5, 0, 2, 0), 1);
            // all six have each ROOM: none parts them, so of all ROOMS the least
            is(ways(0, 1, 1, 1, 2, 1, 3, 1, 4, 1, 5, 1), 6);
            is(look(0, 1, 1, 1, 2, 1, 3, 1, 4, 1, 5, 1), 0);
        });
        test("Terms, LOOK, 45 look", "so that the greater part is the least", () -> {
            // 0, 0 1, 0 1 2, 0 1 2 3: 1 is in 3 of them, 2 in 2, 3 in 1
            is(ways(0, 1, 5, 0, 4, 0), 4);
            is(look(0, 1, 5, 0, 4, 0), 2);
            // of 5, 5 0, 5 0 1, alike: 0 parts 1 and 2, so does 1
            is(ways(5, 1, 4, 0, 2, 0), 3);
            is(look(5, 1, 4, 0, 2, 0), 0);
        });
    }
}
