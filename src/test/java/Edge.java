import java.util.List;
import java.util.function.Function;
import java.util.function.Supplier;
import java.util.function.ToLongFunction;

/**
 * Calls at a boundary, on the side that is taken and on the side that is not. What a refused call has changed is
 * seen by a twin: an object that was made alike, but never got that call. Each look has twins of its own, so that
 * no object gets more than 512 calls.
 */
final class Edge {
    static final int NULL = -11;
    static final int CAST = -12;
    static final int INDEX = -13;
    static final int SIZE = -14;

    /** The calls that are refused all alike. */
    interface Round {
        int of(OneNail x, int sheet, int lane, int i, int n);
    }

    /** Promises 6 to 9, each with a number that is taken. */
    static final Round[] ROUNDS = {
        (x, sheet, lane, i, n) -> x.harm(sheet, lane, i, n, 300),
        (x, sheet, lane, i, n) -> x.never(sheet, lane, i, n),
        (x, sheet, lane, i, n) -> x.fall(sheet, lane, i, n, 0),
        (x, sheet, lane, i, n) -> x.nail(sheet, lane, i, n, 299),
    };

    /** The whole state has something of everything, so that a change of any part is seen. */
    static final Supplier<OneNail> TOWN = Edge::town;
    /** The town's sheets without its street. */
    static final Supplier<OneNail> ROWS = Edge::rows;
    static final Supplier<OneNail> BARE = OneNail::new;

    /** Sheet 0 of the town, ints; sheet 1 has nothing, sheet 2 three shorts, sheet 3 the text as bytes. */
    static final int[] ROW = {0, 1, 2, 3, 0, 1, 2, 3, 0, 4, -1};
    static final String TEXT = "s4;t22303;d63185;c11252;t93404";

    private static final List<Function<OneNail, String>> LOOKS = List.of(Edge::lookAtStreet, Edge::lookAtReadings,
            x -> lookAtSheet(x, 0), x -> lookAtSheet(x, 1), x -> lookAtSheet(x, 2), x -> lookAtSheet(x, 3));

    private Edge() { }

    private static OneNail rows() {
        OneNail x = new OneNail();
        Town.lay(x, 3, 0, Town.codes(TEXT));
        Town.lay(x, 2, 1, 7, -8, 9);
        Town.lay(x, 0, 2, ROW);
        return x;
    }

    private static OneNail town() {
        OneNail x = rows();
        Check.due("street of the town", x.street(3, 0, 0, TEXT.length()), 4);
        Check.due("rust of the town", x.rust(7), 0);
        Check.due("smithy of the town", x.smithy(5), 4);
        Check.due("reading of the town", x.reading(1, 20, true), 0);
        Check.due("reading of the town", x.reading(0, 23, false), 1);
        Check.due("telling of the town", x.tell(2), 150);
        return x;
    }

    /** A street of a text on sheet 3, and a row of ints on sheet 0. */
    static Supplier<OneNail> of(String text, int... row) {
        return () -> {
            OneNail x = Town.of(text);
            Town.lay(x, 0, 2, row);
            return x;
        };
    }

    // ---- calls that name FAULTS

    static void taken(String what, Supplier<OneNail> made, ToLongFunction<OneNail> call, long want) {
        answer(what, made, call, want, 0, 0);
        answer(what, made, call, want, 4, 0);
    }

    static void refused(String what, Supplier<OneNail> made, ToLongFunction<OneNail> call, int want) {
        int fault = want <= NULL && want >= SIZE ? -10 - want : 0;
        answer(what, made, call, want, 0, fault);
        answer(what, made, call, want, 4, fault);
        changesNothing(what, made, call);
    }

    static void lost(String what, Supplier<OneNail> made, ToLongFunction<OneNail> call, int fault) {
        answer(what, made, call, Long.MIN_VALUE, 0, fault);
        answer(what, made, call, Long.MIN_VALUE, 4, fault);
        changesNothing(what, made, call);
    }

    // ---- calls that name none: fault() tells what it told

    static void takenPlainly(String what, Supplier<OneNail> made, ToLongFunction<OneNail> call, long want) {
        answer(what, made, call, want, 0, 0);
        answer(what, made, call, want, 4, 4);
    }

    static void refusedPlainly(String what, Supplier<OneNail> made, ToLongFunction<OneNail> call, int want) {
        takenPlainly(what, made, call, want);
        changesNothing(what, made, call);
    }

    // ---- how it is seen

    private static void answer(String what, Supplier<OneNail> made, ToLongFunction<OneNail> call, long want,
            int faultBefore, int faultAfter) {
        OneNail x = made.get();
        if (faultBefore == 0) {
            x.sheet(4, 0, 0);
        } else {
            x.sheet(0, 0, -1);
        }
        Check.due("fault() ahead of " + what, x.fault(), faultBefore);
        Check.due(what, call.applyAsLong(x), want);
        Check.due("fault() after " + what, x.fault(), faultAfter);
    }

    static void changesNothing(String what, Supplier<OneNail> made, ToLongFunction<OneNail> call) {
        for (int k = 0; k < LOOKS.size(); k++) {
            OneNail x = made.get();
            call.applyAsLong(x);
            String seen = LOOKS.get(k).apply(x);
            Check.holds("nothing is changed by " + what + ", look " + k, seen.equals(LOOKS.get(k).apply(made.get())));
        }
    }

    private static String lookAtStreet(OneNail x) {
        StringBuilder told = new StringBuilder();
        for (int what = 0; what < 4; what++) {
            told.append(x.many(what)).append(' ');
        }
        for (int thing = 0; thing < 7; thing++) {
            for (int what = 0; what < 6; what++) {
                told.append(x.ofThing(thing, what)).append(' ');
            }
        }
        return told.append(x.trace()).toString();
    }

    private static String lookAtReadings(OneNail x) {
        StringBuilder told = new StringBuilder();
        for (int left = x.many(3); left >= 0; left = x.back(1)) {
            told.append(left).append(':');
            for (int q = -1; q < 6; q++) {
                told.append(x.fits(q)).append(' ');
            }
        }
        return told.toString();
    }

    private static String lookAtSheet(OneNail x, int k) {
        StringBuilder told = new StringBuilder();
        for (int lane = 0; lane < 3; lane++) {
            for (int i = 0; i <= 60; i++) {
                told.append(x.cell(k, i, lane)).append(' ').append(x.fault()).append(' ');
            }
        }
        return told.toString();
    }
}
