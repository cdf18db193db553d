import java.util.function.Supplier;

/** "Terms", ahead of its sections: the order of refusals and FAULTS, what they answer, that they change nothing. */
public final class EdgeTermsTest {
    private static final int UNKNOWN = OneNail.UNKNOWN;
    private static final int OUTSIDE = OneNail.OUTSIDE;
    private static final int STATE = OneNail.STATE;
    private static final Supplier<OneNail> TOWN = Edge.TOWN;
    private static final Supplier<OneNail> ROWS = Edge.ROWS;
    private static final Supplier<OneNail> BARE = Edge.BARE;

    public static void main(String[] args) {
        orderOfStreet();
        for (int k = 0; k < Edge.ROUNDS.length; k++) {
            orderOfRounds((6 + k) + " ", Edge.ROUNDS[k]);
            indexOfNone((6 + k) + " ", Edge.ROUNDS[k]);
        }
        numbersWithTheLane();
        numberWithTheSheet();
        orderOfStreetsOwn();
        orderOfOrders();
        orderOfReadings();
        orderOfSheetAndPut();
        orderOfCell();
        orderOfCopy();
        orderOfAs();
        indexOfNoCells();
        eachFaultAnswers();
        setsAreBits();
        noneIsMinusNine();
        lastCallOf512();
        Check.end();
    }

    private static void orderOfStreet() {
        Edge.refused("2 UNKNOWN, OUTSIDE", TOWN, x -> x.street(4, 3, 0, 30), UNKNOWN);
        Edge.refused("2 UNKNOWN, SIZE", TOWN, x -> x.street(-1, 0, 0, -1), UNKNOWN);
        Edge.refused("2 OUTSIDE, CAST", TOWN, x -> x.street(2, 3, 0, 3), OUTSIDE);
        Edge.refused("2 OUTSIDE, NULL", TOWN, x -> x.street(1, -1, 0, 0), OUTSIDE);
        Edge.refused("2 OUTSIDE, SIZE", TOWN, x -> x.street(3, 3, 0, -1), OUTSIDE);
        Edge.refused("2 OUTSIDE, INDEX", TOWN, x -> x.street(3, -1, 31, 0), OUTSIDE);
        Edge.refused("2 CAST, SIZE", TOWN, x -> x.street(2, 0, 0, -1), Edge.CAST);
        Edge.refused("2 CAST, INDEX", TOWN, x -> x.street(2, 2, 4, 0), Edge.CAST);
        Edge.refused("2 CAST, FIRST FAULT", TOWN, x -> x.street(2, 0, 0, 3), Edge.CAST);
        Edge.refused("2 NULL, SIZE", TOWN, x -> x.street(1, 0, 0, -1), Edge.NULL);
        Edge.refused("2 NULL, INDEX", TOWN, x -> x.street(1, 0, 0, 1), Edge.NULL);
        Edge.refused("2 SIZE, INDEX", TOWN, x -> x.street(3, 0, -1, -1), Edge.SIZE);
        Edge.refused("2 SIZE, INDEX", TOWN, x -> x.street(3, 0, 31, -1), Edge.SIZE);
        Edge.refused("2 INDEX, FIRST FAULT", TOWN, x -> x.street(3, 0, 1, 30), Edge.INDEX);
        Edge.refused("2 FIRST FAULT", TOWN, x -> x.street(3, 0, 1, 29), -100);
    }

    private static void orderOfRounds(String at, Edge.Round round) {
        Edge.refused(at + "UNKNOWN, OUTSIDE", TOWN, x -> round.of(x, 4, 3, 0, 4), UNKNOWN);
        Edge.refused(at + "UNKNOWN, SIZE", TOWN, x -> round.of(x, -1, 2, 0, -1), UNKNOWN);
        Edge.refused(at + "UNKNOWN, STATE", BARE, x -> round.of(x, 4, 2, 0, 1), UNKNOWN);
        Edge.refused(at + "OUTSIDE, CAST", TOWN, x -> round.of(x, 0, 3, 0, 4), OUTSIDE);
        Edge.refused(at + "OUTSIDE, NULL", TOWN, x -> round.of(x, 1, -1, 0, 4), OUTSIDE);
        Edge.refused(at + "OUTSIDE, SIZE", TOWN, x -> round.of(x, 0, 3, 0, -1), OUTSIDE);
        Edge.refused(at + "OUTSIDE, STATE", ROWS, x -> round.of(x, 0, 3, 0, 4), OUTSIDE);
        Edge.refused(at + "CAST, SIZE", TOWN, x -> round.of(x, 0, 1, 0, -1), Edge.CAST);
        Edge.refused(at + "CAST, INDEX", TOWN, x -> round.of(x, 0, 0, 12, 0), Edge.CAST);
        Edge.refused(at + "CAST, STATE", ROWS, x -> round.of(x, 0, 0, 0, 4), Edge.CAST);
        Edge.refused(at + "NULL, SIZE", TOWN, x -> round.of(x, 1, 2, 0, -1), Edge.NULL);
        Edge.refused(at + "NULL, INDEX", TOWN, x -> round.of(x, 1, 2, -1, 4), Edge.NULL);
        Edge.refused(at + "NULL, STATE", BARE, x -> round.of(x, 0, 2, 0, 1), Edge.NULL);
        Edge.refused(at + "SIZE, INDEX", TOWN, x -> round.of(x, 0, 2, -1, -1), Edge.SIZE);
        Edge.refused(at + "SIZE, STATE", ROWS, x -> round.of(x, 0, 2, 0, -1), Edge.SIZE);
        Edge.refused(at + "SIZE, OUTSIDE n", TOWN, x -> round.of(x, 0, 2, 0, Integer.MIN_VALUE), Edge.SIZE);
        Edge.refused(at + "INDEX, STATE", ROWS, x -> round.of(x, 0, 2, 0, 12), Edge.INDEX);
        Edge.refused(at + "INDEX, OUTSIDE n", TOWN, x -> round.of(x, 0, 2, 3, 9), Edge.INDEX);
        Edge.refused(at + "INDEX, UNKNOWN THING", TOWN, x -> round.of(x, 0, 2, 9, 3), Edge.INDEX);
        Edge.refused(at + "STATE, OUTSIDE n 0", ROWS, x -> round.of(x, 0, 2, 0, 0), STATE);
        Edge.refused(at + "STATE, OUTSIDE n 9", ROWS, x -> round.of(x, 0, 2, 0, 9), STATE);
        Edge.refused(at + "STATE, UNKNOWN THING", ROWS, x -> round.of(x, 0, 2, 10, 1), STATE);
        Edge.refused(at + "OUTSIDE n, UNKNOWN THING", TOWN, x -> round.of(x, 0, 2, 2, 9), OUTSIDE);
        Edge.refused(at + "UNKNOWN THING", TOWN, x -> round.of(x, 0, 2, 2, 8), UNKNOWN);
    }

    /** harm's and nail's t are refused "with the lane". */
    private static void numbersWithTheLane() {
        Edge.refused("6 UNKNOWN, t", TOWN, x -> x.harm(4, 2, 0, 4, 0), UNKNOWN);
        Edge.refused("6 t, CAST", TOWN, x -> x.harm(0, 1, 0, 4, 301), OUTSIDE);
        Edge.refused("6 t, NULL", TOWN, x -> x.harm(1, 2, 0, 4, 0), OUTSIDE);
        Edge.refused("6 t, SIZE", TOWN, x -> x.harm(0, 2, 0, -1, 0), OUTSIDE);
        Edge.refused("6 t, INDEX", TOWN, x -> x.harm(0, 2, 12, 0, 0), OUTSIDE);
        Edge.refused("6 t, STATE", ROWS, x -> x.harm(0, 2, 0, 4, 301), OUTSIDE);
        Edge.refused("6 t, UNKNOWN THING", TOWN, x -> x.harm(0, 2, 9, 1, 301), OUTSIDE);
        Edge.refused("9 UNKNOWN, t", TOWN, x -> x.nail(-1, 2, 0, 4, 300), UNKNOWN);
        Edge.refused("9 t, CAST", TOWN, x -> x.nail(0, 1, 0, 4, 300), OUTSIDE);
        Edge.refused("9 t, NULL", TOWN, x -> x.nail(1, 2, 0, 4, -1), OUTSIDE);
        Edge.refused("9 t, SIZE", TOWN, x -> x.nail(0, 2, 0, -1, -1), OUTSIDE);
        Edge.refused("9 t, INDEX", TOWN, x -> x.nail(0, 2, 12, 0, 300), OUTSIDE);
        Edge.refused("9 t, STATE", ROWS, x -> x.nail(0, 2, 0, 4, 300), OUTSIDE);
        Edge.refused("9 t, UNKNOWN THING", TOWN, x -> x.nail(0, 2, 9, 1, -1), OUTSIDE);
    }

    /** fall's k is refused "with the SHEET". */
    private static void numberWithTheSheet() {
        Edge.refused("8 k, OUTSIDE", TOWN, x -> x.fall(0, 3, 0, 4, -2), UNKNOWN);
        Edge.refused("8 k, CAST", TOWN, x -> x.fall(0, 1, 0, 4, -2), UNKNOWN);
        Edge.refused("8 k, NULL", TOWN, x -> x.fall(1, 2, 0, 4, -2), UNKNOWN);
        Edge.refused("8 k, SIZE", TOWN, x -> x.fall(0, 2, 0, -1, -2), UNKNOWN);
        Edge.refused("8 k, INDEX", TOWN, x -> x.fall(0, 2, 12, 0, -2), UNKNOWN);
        Edge.refused("8 k, STATE", ROWS, x -> x.fall(0, 2, 0, 4, -2), UNKNOWN);
        Edge.refused("8 k, OUTSIDE n", TOWN, x -> x.fall(0, 2, 0, 9, -2), UNKNOWN);
    }

    private static void orderOfStreetsOwn() {
        Edge.refusedPlainly("3 UNKNOWN, OUTSIDE", TOWN, x -> x.ofThing(4, 6), UNKNOWN);
        Edge.refusedPlainly("3 UNKNOWN, OUTSIDE", BARE, x -> x.ofThing(0, -1), UNKNOWN);
        Edge.refusedPlainly("4 OUTSIDE, STATE", ROWS, x -> x.smithy(10), OUTSIDE);
        Edge.refusedPlainly("4 OUTSIDE, STATE", ROWS, x -> x.smithy(-1), OUTSIDE);
        Edge.refusedPlainly("5 OUTSIDE, STATE", ROWS, x -> x.rust(51), OUTSIDE);
        Edge.refusedPlainly("5 OUTSIDE, STATE", ROWS, x -> x.rust(-1), OUTSIDE);
    }

    private static void orderOfOrders() {
        Edge.refusedPlainly("10 STATE, OUTSIDE", ROWS, x -> x.best(0, 0), STATE);
        Edge.refusedPlainly("10 STATE, UNKNOWN", ROWS, x -> x.best(1, -2), STATE);
        Edge.refusedPlainly("10 OUTSIDE, UNKNOWN", TOWN, x -> x.best(0, 4), OUTSIDE);
        Edge.refusedPlainly("10 OUTSIDE, UNKNOWN", TOWN, x -> x.best(301, -2), OUTSIDE);
        Edge.refusedPlainly("13 STATE, OUTSIDE t", ROWS, x -> x.two(0, 0), STATE);
        Edge.refusedPlainly("13 STATE, OUTSIDE", ROWS, x -> x.two(1, 2), STATE);
        Edge.refusedPlainly("14 STATE, OUTSIDE t", ROWS, x -> x.site(301, 0), STATE);
        Edge.refusedPlainly("14 STATE, OUTSIDE", ROWS, x -> x.site(1, -1), STATE);
    }

    private static OneNail fullTown() {
        OneNail x = TOWN.get();
        for (int k = 2; k < 8; k++) {
            Check.due("15 to fill", x.reading(0, 0, true), k);
        }
        return x;
    }

    private static void orderOfReadings() {
        Supplier<OneNail> full = EdgeTermsTest::fullTown;
        Edge.refusedPlainly("15 UNKNOWN, OUTSIDE", TOWN, x -> x.reading(4, 300, true), UNKNOWN);
        Edge.refusedPlainly("15 UNKNOWN, FULL", full, x -> x.reading(-1, 0, true), UNKNOWN);
        Edge.refusedPlainly("15 OUTSIDE, FULL", full, x -> x.reading(0, 300, true), OUTSIDE);
        Edge.refusedPlainly("15 FULL", full, x -> x.reading(0, 0, false), OneNail.FULL);
        Edge.refusedPlainly("17 STATE, UNKNOWN", ROWS, x -> x.fits(-2), STATE);
        Edge.refusedPlainly("17 STATE, UNKNOWN", ROWS, x -> x.fits(0), STATE);
    }

    private static void orderOfSheetAndPut() {
        Edge.refused("18 UNKNOWN, OUTSIDE lane", TOWN, x -> x.sheet(4, 3, 1), UNKNOWN);
        Edge.refused("18 UNKNOWN, OUTSIDE n", TOWN, x -> x.sheet(-1, 0, 61), UNKNOWN);
        Edge.refused("18 UNKNOWN, SIZE", TOWN, x -> x.sheet(4, 0, -1), UNKNOWN);
        Edge.refused("18 OUTSIDE, SIZE", TOWN, x -> x.sheet(2, 3, -1), OUTSIDE);
        Edge.refused("20 UNKNOWN, INDEX", TOWN, x -> x.put(4, -1, 5), UNKNOWN);
        Edge.refused("20 NULL, INDEX", TOWN, x -> x.put(1, -1, 5), Edge.NULL);
    }

    private static void orderOfCell() {
        Edge.lost("21 UNKNOWN, OUTSIDE", TOWN, x -> x.cell(4, 0, 3), 0);
        Edge.lost("21 UNKNOWN, INDEX", TOWN, x -> x.cell(-1, -1, 0), 0);
        Edge.lost("21 OUTSIDE, CAST", TOWN, x -> x.cell(2, 0, 3), 0);
        Edge.lost("21 OUTSIDE, NULL", TOWN, x -> x.cell(1, 0, -1), 0);
        Edge.lost("21 OUTSIDE, INDEX", TOWN, x -> x.cell(2, 3, 3), 0);
        Edge.lost("21 CAST, INDEX", TOWN, x -> x.cell(2, 3, 2), 2);
        Edge.lost("21 NULL, INDEX", TOWN, x -> x.cell(1, -1, 0), 1);
    }

    private static OneNail townOfLikeRows() {
        OneNail x = TOWN.get();
        Town.lay(x, 1, 1, 1, 2, 3, 4);
        return x;
    }

    private static void orderOfCopy() {
        Supplier<OneNail> like = EdgeTermsTest::townOfLikeRows;
        Edge.refused("22 UNKNOWN, NULL", TOWN, x -> x.copy(4, 0, 1, 0, 0), UNKNOWN);
        Edge.refused("22 UNKNOWN other, NULL", TOWN, x -> x.copy(1, 0, -1, 0, 0), UNKNOWN);
        Edge.refused("22 UNKNOWN other, INDEX", TOWN, x -> x.copy(0, -1, 4, 0, 0), UNKNOWN);
        Edge.refused("22 NULL, INDEX", TOWN, x -> x.copy(1, 0, 0, 0, 1), Edge.NULL);
        Edge.refused("22 NULL other, INDEX", TOWN, x -> x.copy(0, -1, 1, 0, 1), Edge.NULL);
        Edge.refused("22 CAST, INDEX i", TOWN, x -> x.copy(0, -1, 2, 0, 1), Edge.CAST);
        Edge.refused("22 CAST, INDEX j", TOWN, x -> x.copy(0, 0, 2, 4, 0), Edge.CAST);
        Edge.refused("22 CAST, INDEX n", TOWN, x -> x.copy(0, 0, 3, 0, -1), Edge.CAST);
        Edge.refused("22 INDEX of like rows", like, x -> x.copy(1, 0, 2, 0, -1), Edge.INDEX);
        Edge.taken("22 like rows", like, x -> x.copy(1, 0, 2, 0, 3), 3);
    }

    private static void orderOfAs() {
        Edge.refused("25 UNKNOWN, OUTSIDE", TOWN, x -> x.as(4, 3), UNKNOWN);
        Edge.refused("25 UNKNOWN, CAST", BARE, x -> x.as(0, 2), UNKNOWN);
        Edge.refused("25 OUTSIDE, CAST", TOWN, x -> x.as(0, 3), OUTSIDE);
    }

    /** "INDEX (of cells from i on also where i is not 0 .. how many there are, if none of them is taken, too)" */
    private static void indexOfNoCells() {
        Edge.refused("2 none from -1 on", TOWN, x -> x.street(3, 0, -1, 0), Edge.INDEX);
        Edge.refused("2 none from 0 on", TOWN, x -> x.street(3, 0, 0, 0), -100);
        Edge.refused("2 none from the end on", TOWN, x -> x.street(3, 0, 30, 0), -100);
        Edge.refused("2 none from beyond on", TOWN, x -> x.street(3, 0, 31, 0), Edge.INDEX);
        Edge.refused("2 none from the least on", TOWN, x -> x.street(3, 0, Integer.MIN_VALUE, 0), Edge.INDEX);
        Edge.refused("2 none from the most on", TOWN, x -> x.street(3, 0, Integer.MAX_VALUE, 0), Edge.INDEX);
        Edge.refused("22 none from -1 on", TOWN, x -> x.copy(0, -1, 0, 0, 0), Edge.INDEX);
        Edge.taken("22 none from the end on", TOWN, x -> x.copy(0, 11, 0, 0, 0), 0);
        Edge.refused("22 none from beyond on", TOWN, x -> x.copy(0, 12, 0, 0, 0), Edge.INDEX);
        Edge.refused("22 none to -1", TOWN, x -> x.copy(0, 0, 0, -1, 0), Edge.INDEX);
        Edge.taken("22 none to the end", TOWN, x -> x.copy(0, 0, 0, 11, 0), 0);
        Edge.refused("22 none to beyond", TOWN, x -> x.copy(0, 0, 0, 12, 0), Edge.INDEX);
        Supplier<OneNail> empty = () -> {
            OneNail x = TOWN.get();
            Check.due("18 a row of none", x.sheet(1, 0, 0), 1);
            return x;
        };
        Edge.refused("2 none of a row of none", empty, x -> x.street(1, 0, 0, 0), -100);
        Edge.refused("2 none from 1 on of none", empty, x -> x.street(1, 0, 1, 0), Edge.INDEX);
        Edge.refused("2 one of a row of none", empty, x -> x.street(1, 0, 0, 1), Edge.INDEX);
        Edge.taken("22 none of a row of none", empty, x -> x.copy(1, 0, 1, 0, 0), 0);
        Edge.refused("22 none from 1 on of none", empty, x -> x.copy(1, 1, 1, 0, 0), Edge.INDEX);
    }

    private static void indexOfNone(String at, Edge.Round round) {
        Edge.refused(at + "none from -1 on", TOWN, x -> round.of(x, 0, 2, -1, 0), Edge.INDEX);
        Edge.refused(at + "none from 0 on", TOWN, x -> round.of(x, 0, 2, 0, 0), OUTSIDE);
        Edge.refused(at + "none from the end on", TOWN, x -> round.of(x, 0, 2, 11, 0), OUTSIDE);
        Edge.refused(at + "none from beyond on", TOWN, x -> round.of(x, 0, 2, 12, 0), Edge.INDEX);
        Edge.refused(at + "one from the end on", TOWN, x -> round.of(x, 0, 2, 11, 1), Edge.INDEX);
        Edge.refused(at + "a sum that wraps", TOWN, x -> round.of(x, 0, 2, 1, Integer.MAX_VALUE), Edge.INDEX);
        Edge.refused(at + "one from the most on", TOWN, x -> round.of(x, 0, 2, Integer.MAX_VALUE, 1), Edge.INDEX);
    }

    /** "it answers -10 less it (LOST, where a long is answered, as for refusals) and changes nothing; fault() tells it" */
    private static void eachFaultAnswers() {
        Edge.refused("1 NULL", TOWN, x -> x.put(1, 0, 5), -10 - 1);
        Edge.refused("2 CAST", TOWN, x -> x.as(0, 1), -10 - 2);
        Edge.refused("3 INDEX", TOWN, x -> x.put(2, 3, 5), -10 - 3);
        Edge.refused("4 SIZE", TOWN, x -> x.sheet(2, 1, -1), -10 - 4);
        Edge.lost("1 NULL, a long", TOWN, x -> x.cell(1, 0, 0), 1);
        Edge.lost("2 CAST, a long", TOWN, x -> x.cell(2, 0, 0), 2);
        Edge.lost("3 INDEX, a long", TOWN, x -> x.cell(2, 3, 1), 3);
        Edge.taken("none, a long", TOWN, x -> x.cell(2, 2, 1), 9);
    }

    /** "Sets are told as bits (bit k for number k)" */
    private static void setsAreBits() {
        for (int k = 0; k < 6; k++) {
            StringBuilder late = new StringBuilder("s0");
            for (int x = 0; x < 6; x++) {
                late.append(x == k ? ";t91011" : ";t01991");
            }
            Check.due("12 let go " + k, Town.of(late.toString()).letGo(), 1 << k);
        }
        // The far one and the near ones do not go together; the least of a set and its rest is told.
        Check.due("13 the last goes alone", Town.of("s0;t01051;t01051;t91091").two(300, 0), 3);
        Check.due("13 the first goes alone", Town.of("s0;t91091;t01051;t01051").two(300, 0), 1);
    }

    private static void noneIsMinusNine() {
        Check.due("NONE", OneNail.NONE, -9);
        Check.due("8 fewer", Edge.of("s0;t01991", 0).get().fall(0, 2, 0, 1, 0), -9);
        Check.due("9 on its way", Edge.of("s0;t11991", 0).get().nail(0, 2, 0, 1, 0), -9);
        OneNail x = Town.of("s0;t01991");
        x.reading(0, 0, false);
        Check.due("17 there is none", x.fits(0), -9);
    }

    /** "An object is used for at most 512 calls after it has been made" */
    private static void lastCallOf512() {
        OneNail x = new OneNail();
        Check.due("first", x.sheet(0, 0, 9), 1);
        int[] codes = Town.codes("s0;t01071");
        for (int i = 0; i < codes.length; i++) {
            Check.due("put", x.put(0, i, codes[i]), 1);
        }
        Check.due("eleventh", x.street(0, 0, 0, 9), 1);
        for (int call = 12; call < 512; call++) {
            Check.due("call " + call, x.tell(0), 7);
        }
        int trace = 0;
        for (int call = 12; call < 512; call++) {
            trace = 31 * trace + 1;
        }
        Check.due("call 512", x.trace(), trace);
    }
}
