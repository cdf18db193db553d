import java.util.function.Supplier;

/** "==== 4" and promises 15 to 17: each boundary that a sentence there names, on both sides. */
public final class EdgeReadingTest {
    private static final int UNKNOWN = OneNail.UNKNOWN;
    private static final int OUTSIDE = OneNail.OUTSIDE;
    private static final int STATE = OneNail.STATE;
    private static final int NONE = OneNail.NONE;
    private static final Supplier<OneNail> TOWN = Edge.TOWN;
    private static final Supplier<OneNail> ROWS = Edge.ROWS;
    // By 0, 1 the nail comes to 1 at 10, 30, 50 and so on, by 1, 0 at 9, 29, 49; it falls 9 minutes behind that.
    private static final String PAIR = "s0;t01991;t91081";

    public static void main(String[] args) {
        eightAtMost();
        numberedByHowManyThereAre();
        minutes();
        things();
        notUpWhenItFalls();
        upJustThen();
        upWhenTheNailComes();
        allReadingsAreSo();
        theFirstAsARow();
        noneFits();
        placesOfTheRow();
        takesBack();
        takesTheLastBack();
        byTheSmithyAndTheRustOfNow();
        withoutAStreet();
        askingChangesNothing();
        Check.end();
    }

    private static OneNail withReadings(int n) {
        OneNail x = Town.of(PAIR);
        for (int k = 0; k < n; k++) {
            Check.due("15 number " + k, x.reading(k & 1, k, true), k);
        }
        return x;
    }

    /** "READINGS, 8 at most"; "FULL" */
    private static void eightAtMost() {
        for (int n = 0; n < 8; n++) {
            int there = n;
            Edge.takenPlainly("15 behind " + n, () -> withReadings(there), x -> x.reading(1, 299, false), n);
        }
        Edge.refusedPlainly("15 a ninth", () -> withReadings(8), x -> x.reading(0, 0, true), OneNail.FULL);
        Edge.refusedPlainly("15 a ninth, not UP", () -> withReadings(8), x -> x.reading(1, 299, false), OneNail.FULL);
        OneNail x = withReadings(8);
        Check.due("28 eight", x.many(3), 8);
        Check.due("15 a ninth", x.reading(0, 0, false), OneNail.FULL);
        Check.due("28 still eight", x.many(3), 8);
        Check.due("17 the ninth is no READING", x.fits(-1), 2);
        Check.due("16 one back", x.back(1), 7);
        Check.due("15 an eighth again", x.reading(0, 0, false), 7);
        Check.due("17 it is one", x.fits(-1), 0);
        Check.due("15 a ninth again", x.reading(0, 0, true), OneNail.FULL);
    }

    /** "numbered by how many there are" */
    private static void numberedByHowManyThereAre() {
        OneNail x = withReadings(3);
        Check.due("16 all back", x.back(3), 0);
        Check.due("15 from 0 on", x.reading(0, 0, true), 0);
        Check.due("15 and on", x.reading(0, 0, true), 1);
        Check.due("15 refused", x.reading(2, 0, true), UNKNOWN);
        Check.due("15 a refused one has no number", x.reading(0, 0, true), 2);
    }

    /** "at a minute (0 .. 299)" */
    private static void minutes() {
        Edge.takenPlainly("15 minute 0", TOWN, x -> x.reading(0, 0, true), 2);
        Edge.takenPlainly("15 minute 299", TOWN, x -> x.reading(0, 299, false), 2);
        for (int minute : new int[] {-1, 300, Integer.MIN_VALUE, Integer.MAX_VALUE}) {
            Edge.refusedPlainly("15 minute " + minute, TOWN, x -> x.reading(0, minute, true), OUTSIDE);
            Edge.refusedPlainly("15 minute " + minute, TOWN, x -> x.reading(3, minute, false), OUTSIDE);
        }
    }

    private static void things() {
        Edge.takenPlainly("15 the first THING", TOWN, x -> x.reading(0, 9, true), 2);
        Edge.takenPlainly("15 the last THING", TOWN, x -> x.reading(3, 9, true), 2);
        for (int thing : new int[] {-1, 4, Integer.MIN_VALUE, Integer.MAX_VALUE}) {
            Edge.refusedPlainly("15 THING " + thing, TOWN, x -> x.reading(thing, 9, true), UNKNOWN);
        }
        Edge.refusedPlainly("15 no STREET, no THING", ROWS, x -> x.reading(0, 9, true), UNKNOWN);
    }

    private static void single(String what, String text, int minute, boolean isUp) {
        OneNail up = Town.of(text);
        up.reading(0, minute, true);
        Check.due(what + " UP at " + minute, up.fits(-1), isUp ? 1 : 0);
        OneNail down = Town.of(text);
        down.reading(0, minute, false);
        Check.due(what + " not UP at " + minute, down.fits(-1), isUp ? 0 : 1);
    }

    /** "(it is not UP at the minute at which it FALLS; it is UP at the one at which the NAIL comes to it)" */
    private static void notUpWhenItFalls() {
        for (int minute = 0; minute < 300; minute++) {
            single("17 falls at 8, put up at 9,", "s0;t91081", minute, minute != 8);
            single("17 falls at 1, put up at 9,", "s0;t91011", minute, minute == 0 || minute >= 9);
        }
    }

    /** "just then is soon enough": it does not fall, and is UP. */
    private static void upJustThen() {
        for (int minute = 0; minute < 300; minute++) {
            single("17 just then at 9,", "s0;t91091", minute, true);
        }
        for (int minute = 0; minute < 300; minute++) {
            OneNail x = Town.of("s0;t01191;t91191");
            x.reading(0, minute, true);
            x.reading(1, minute, true);
            // By 1, 0 the nail comes to 0 at 19 and to 1 at 29 and so on, by 0, 1 at 20 and at 30: just then.
            Check.due("17 just then again and again, " + minute, x.fits(-1), 2);
        }
    }

    private static void upWhenTheNailComes() {
        for (int minute = 0; minute < 300; minute++) {
            boolean first = minute < 8 || minute >= 10 && (minute - 10) % 20 < 9;
            boolean second = minute < 8 || minute >= 9 && (minute - 9) % 20 < 9;
            for (int k = 0; k < 2; k++) {
                boolean up = k == 0;
                OneNail x = Town.of(PAIR);
                x.reading(1, minute, up);
                int want = (first == up ? 1 : 0) + (second == up ? 1 : 0);
                Check.due("17 " + up + " at " + minute, x.fits(-1), want);
                Check.due("17 row of " + up + " at " + minute, x.fits(0), first == up ? 0 : second == up ? 1 : NONE);
            }
        }
    }

    /** "FITS: ORDERS by which all READINGS are so": the first and the eighth, too. */
    private static void allReadingsAreSo() {
        for (int wrong = 0; wrong < 8; wrong++) {
            OneNail x = Town.of(PAIR);
            for (int k = 0; k < 8; k++) {
                Check.due("15 number " + k, x.reading(1, 9, k == wrong), k);
            }
            Check.due("17 one of eight is wrong, " + wrong, x.fits(-1), 0);
            Check.due("17 all but the last " + wrong, x.back(8 - wrong), wrong);
            Check.due("17 those ahead of it", x.fits(-1), wrong == 0 ? 2 : 1);
        }
    }

    /** "how many; the first as a row" */
    private static void theFirstAsARow() {
        OneNail all = Town.of("s0;t01991;t01991;t01991;t01991;t01991;t01991");
        Check.due("17 no READINGS", all.fits(-1), 720);
        for (int q = 0; q < 6; q++) {
            Check.due("17 the first of 720, " + q, all.fits(q), q);
        }
        // 5 falls at 4 by all rows that do not begin with it.
        OneNail x = Town.of("s0;t01991;t01991;t01991;t01991;t01991;t41041");
        x.reading(5, 4, true);
        Check.due("17 those that begin with 5", x.fits(-1), 120);
        Check.due("17 the first of 120", x.fits(0), 5);
        for (int q = 1; q < 6; q++) {
            Check.due("17 the first of 120, " + q, x.fits(q), q - 1);
        }
        x.back(1);
        x.reading(5, 4, false);
        Check.due("17 those that do not", x.fits(-1), 600);
        Check.due("17 the first of 600", x.fits(5), 5);
    }

    /** "NONE: there is none" */
    private static void noneFits() {
        Supplier<OneNail> none = () -> {
            OneNail x = TOWN.get();
            x.reading(0, 0, false);
            return x;
        };
        Edge.takenPlainly("17 how many", none, x -> x.fits(-1), 0);
        Edge.takenPlainly("17 q 0", none, x -> x.fits(0), NONE);
        Edge.takenPlainly("17 q 3", none, x -> x.fits(3), NONE);
        Edge.refusedPlainly("17 q 4 of none", none, x -> x.fits(4), UNKNOWN);
        Edge.refusedPlainly("17 q -2 of none", none, x -> x.fits(-2), UNKNOWN);
        // What an earlier asking found is not told again.
        OneNail x = Town.of(PAIR);
        Check.due("17 there is one", x.fits(0), 0);
        x.reading(0, 0, false);
        Check.due("17 there is none", x.fits(0), NONE);
    }

    /** "UNKNOWN: q is not -1 .. THINGS less 1" */
    private static void placesOfTheRow() {
        Edge.takenPlainly("17 q -1", TOWN, x -> x.fits(-1), 2);
        Edge.takenPlainly("17 q 0", TOWN, x -> x.fits(0), 2);
        Edge.takenPlainly("17 q 3", TOWN, x -> x.fits(3), 0);
        for (int q : new int[] {-2, 4, Integer.MIN_VALUE, Integer.MAX_VALUE}) {
            Edge.refusedPlainly("17 q " + q, TOWN, x -> x.fits(q), UNKNOWN);
        }
        Supplier<OneNail> one = Edge.of("s0;t01991");
        Edge.takenPlainly("17 q 0 of one", one, x -> x.fits(0), 0);
        Edge.refusedPlainly("17 q 1 of one", one, x -> x.fits(1), UNKNOWN);
        Supplier<OneNail> six = Edge.of("s0;t01991;t01991;t01991;t01991;t01991;t01991");
        Edge.takenPlainly("17 q 5 of six", six, x -> x.fits(5), 5);
        Edge.refusedPlainly("17 q 6 of six", six, x -> x.fits(6), UNKNOWN);
    }

    /** "The last k READINGS (0 .. as many as there are) are taken back: how many are left. OUTSIDE." */
    private static void takesBack() {
        for (int n = 0; n <= 8; n++) {
            int there = n;
            Supplier<OneNail> made = () -> withReadings(there);
            Edge.takenPlainly("16 none of " + n, made, x -> x.back(0), n);
            Edge.changesNothing("16 none of " + n, made, x -> x.back(0));
            Edge.takenPlainly("16 all of " + n, made, x -> x.back(there), 0);
            Edge.refusedPlainly("16 one more than " + n, made, x -> x.back(there + 1), OUTSIDE);
            Edge.refusedPlainly("16 -1 of " + n, made, x -> x.back(-1), OUTSIDE);
            Edge.refusedPlainly("16 least of " + n, made, x -> x.back(Integer.MIN_VALUE), OUTSIDE);
            Edge.refusedPlainly("16 most of " + n, made, x -> x.back(Integer.MAX_VALUE), OUTSIDE);
        }
        Edge.takenPlainly("16 none without a STREET", ROWS, x -> x.back(0), 0);
        Edge.refusedPlainly("16 one without a STREET", ROWS, x -> x.back(1), OUTSIDE);
    }

    private static void takesTheLastBack() {
        OneNail x = Town.of(PAIR);
        x.reading(1, 9, true);
        x.reading(1, 9, false);
        Check.due("17 both are not so", x.fits(-1), 0);
        Check.due("16 the last one back", x.back(1), 1);
        Check.due("17 the first one is left", x.fits(0), 1);
        Check.due("28 one is left", x.many(3), 1);
    }

    private static void byTheSmithyAndTheRustOfNow() {
        OneNail x = Town.of("s0;t91091");
        x.reading(0, 8, true);
        Check.due("17 just then", x.fits(-1), 1);
        Check.due("5 a minute less", x.rust(1), 0);
        Check.due("17 it falls at 8", x.fits(-1), 0);
        Check.due("4 a PLACE nearer", x.smithy(1), 0);
        Check.due("17 just then again", x.fits(-1), 1);
        Check.due("28 the READING stays", x.many(3), 1);
    }

    private static void withoutAStreet() {
        Edge.refusedPlainly("17 how many", ROWS, x -> x.fits(-1), STATE);
        Edge.refusedPlainly("17 q 0", ROWS, x -> x.fits(0), STATE);
        Edge.takenPlainly("28 READINGS", ROWS, x -> x.many(3), 0);
    }

    private static void askingChangesNothing() {
        Edge.changesNothing("17 how many", TOWN, x -> x.fits(-1));
        Edge.changesNothing("17 q 0", TOWN, x -> x.fits(0));
    }
}
