import java.util.function.Supplier;

/** "==== 1" and promises 1 to 5 and 28: each boundary that a sentence there names, on both sides. */
public final class EdgeStreetTest {
    private static final int UNKNOWN = OneNail.UNKNOWN;
    private static final int OUTSIDE = OneNail.OUTSIDE;
    private static final int STATE = OneNail.STATE;
    private static final Supplier<OneNail> TOWN = Edge.TOWN;
    private static final Supplier<OneNail> ROWS = Edge.ROWS;
    private static final String SIX = "s0;t01111;d11221;c21331;t31441;d41551;c51661";

    public static void main(String[] args) {
        newObject();
        oneToSixThings();
        theSemicolonOfASeventh();
        everyCodeAtEveryPlace();
        codesThatAreNoBytes();
        holdsOf00To99();
        theFirstDigitOf00();
        theFirstOfSeveralFaults();
        justEndsTooSoon();
        placesAreTheTexts();
        sheetsAndLanes();
        allCellsAreThere();
        makesAllAnew();
        aFaultyTextMakesNothing();
        holdsLessRustOneAtLeast();
        halfIsCut();
        ofThingsBounds();
        ofThingsLeastAndMost();
        smithysPlaces();
        rustsBounds();
        manysBounds();
        Check.end();
    }

    /** What street answers to codes on a new object's sheet of a lane. */
    private static int answer(int lane, int... codes) {
        OneNail x = new OneNail();
        Town.lay(x, 1, lane, codes);
        int answered = x.street(1, lane, 0, codes.length);
        Check.due("2 fault()", x.fault(), 0);
        Check.due("2 things", x.many(0), Math.max(0, answered));
        return answered;
    }

    private static int answer(String text) {
        return answer(0, Town.codes(text));
    }

    /** Promise 1: "No STREET (no THINGS), SHEETS have nothing." */
    private static void newObject() {
        OneNail x = new OneNail();
        Check.due("1 no STREET", x.safe(), STATE);
        Check.due("1 no THINGS", x.many(0), 0);
        Check.due("1 no first THING", x.ofThing(0, 0), UNKNOWN);
        Check.due("1 TRACE is 0 at first", x.trace(), 0);
        Check.due("1 fault() is 0 ahead of any", x.fault(), 0);
        for (int k = 0; k < 4; k++) {
            Check.due("1 nothing", x.put(k, 0, 0), Edge.NULL);
            Check.due("1 nothing", x.lose(k), 0);
        }
    }

    /** "then 1 to 6 THINGS, numbered from 0 on" */
    private static void oneToSixThings() {
        Check.due("2 no THING", answer("s0"), -102);
        for (int n = 1; n <= 6; n++) {
            Check.due("2 THINGS " + n, answer(SIX.substring(0, 2 + 7 * n)), n);
        }
        OneNail x = Town.of(SIX);
        for (int k = 0; k < 6; k++) {
            Check.due("2 number " + k, x.ofThing(k, 3), 11 * (k + 1));
        }
        Check.due("2 no number 6", x.ofThing(6, 3), UNKNOWN);
    }

    /** "the ; of a seventh THING" */
    private static void theSemicolonOfASeventh() {
        Check.due("2 six", answer(SIX), 6);
        Check.due("2 ; behind six", answer(SIX + ";"), -144);
        Check.due("2 a seventh", answer(SIX + ";t01101"), -144);
        Check.due("2 a seventh and an eighth", answer(SIX + ";t01101;t01101"), -144);
        Check.due("2 half a seventh", answer(SIX + ";t0"), -144);
        Check.due("2 a faulty seventh", answer(SIX + ";x"), -144);
        Check.due("2 another code behind six", answer(SIX + "0"), -144);
        Check.due("2 the ; of a sixth", answer(SIX.substring(0, 38)), -138);
    }

    /** Which codes a text goes on with, by the places of "s4;t22333". */
    private static boolean goesOn(int place, int code) {
        boolean digit = code >= 48 && code <= 57;
        switch (place) {
            case 0: return code == 115;
            case 2: return code == 59;
            case 3: return code == 116 || code == 100 || code == 99;
            case 5:
            case 8: return digit && code != 48;
            default: return digit;
        }
    }

    /** "s, a digit 0 .. 9 ..., each: ; and a letter, a digit 0 .. 9 ..., a digit 1 .. 9 ..., two digits ..., a digit 1 .. 9" */
    private static void everyCodeAtEveryPlace() {
        for (int code = -128; code <= 127; code++) {
            for (int p = 0; p < 9; p++) {
                int[] one = Town.codes("s4;t22333");
                one[p] = code;
                Check.due("2 " + code + " at " + p, answer(0, one), goesOn(p, code) ? 1 : -100 - p);
            }
            for (int p = 2; p < 9; p++) {
                int[] six = Town.codes(SIX);
                six[p + 35] = code;
                Check.due("2 " + code + " at " + (p + 35), answer(0, six), goesOn(p, code) ? 6 : -135 - p);
            }
        }
    }

    /** A code of a wider lane is none because its lowest byte would be one. */
    private static void codesThatAreNoBytes() {
        for (int p = 0; p < 9; p++) {
            for (int away : new int[] {256, -256, 65536, -65536, 1 << 31}) {
                int[] codes = Town.codes("s4;t22303");
                codes[p] += away;
                boolean short16 = away == 256 || away == -256;
                Check.due("2 cut to a byte at " + p, answer(0, codes), 1);
                Check.due("2 cut to a short at " + p, answer(1, codes), short16 ? -100 - p : 1);
                Check.due("2 an int at " + p, answer(2, codes), -100 - p);
            }
        }
    }

    /** "two digits 01 .. 99" */
    private static void holdsOf00To99() {
        Check.due("2 00", answer("s0;t01001"), -106);
        for (int hold = 1; hold <= 99; hold++) {
            OneNail x = Town.of("s0;t01" + hold / 10 + hold % 10 + "1");
            Check.due("2 HOLD " + hold, x.ofThing(0, 3), hold);
        }
    }

    /** "of 00 the first digit" */
    private static void theFirstDigitOf00() {
        Check.due("2 00 and it ends", answer("s0;t0100"), -106);
        Check.due("2 0 and it ends", answer("s0;t010"), -107);
        Check.due("2 00 goes on", answer("s0;t01001"), -106);
        Check.due("2 00 goes on wrong", answer("s0;t0100x"), -106);
        Check.due("2 0 and no digit", answer("s0;t010/1"), -107);
        Check.due("2 0 and no digit", answer("s0;t010:1"), -107);
        Check.due("2 no digit and 0", answer("s0;t01/01"), -106);
        Check.due("2 01", answer("s0;t01011"), 1);
        Check.due("2 10", answer("s0;t01101"), 1);
        Check.due("2 00 in the second", answer("s0;t01011;t01001"), -113);
        Check.due("2 00 in the sixth", answer(SIX.substring(0, 37) + ";t01001"), -141);
        Check.due("2 PLACE 0, HOLD 01", answer("s0;t09011"), 1);
    }

    /** "the first code with which no TEXT goes on" */
    private static void theFirstOfSeveralFaults() {
        Check.due("2 all wrong", answer("xxxxxxxxx"), -100);
        Check.due("2 smithy and on", answer("sxxxxxxxx"), -101);
        Check.due("2 00 ahead of HARM 0", answer("s0;t01000"), -106);
        Check.due("2 IN 0 ahead of 00", answer("s0;t00000"), -105);
        Check.due("2 first THING ahead of the second", answer("s0;t01010;x"), -108);
        Check.due("2 ahead of its end", answer("s0;x"), -103);
        Check.due("2 ahead of a seventh", answer(SIX.substring(0, 43) + "0;"), -143);
    }

    /** "how many codes there are, if it just ends too soon" */
    private static void justEndsTooSoon() {
        for (int n = 0; n <= SIX.length(); n++) {
            boolean whole = n >= 9 && (n - 2) % 7 == 0;
            Check.due("2 codes " + n, answer(SIX.substring(0, n)), whole ? (n - 2) / 7 : -100 - n);
        }
    }

    /** "the place (from 0 on)", of the TEXT, wherever it stands on its SHEET. */
    private static void placesAreTheTexts() {
        for (int i : new int[] {0, 1, 50, 51}) {
            for (int p = 0; p < 9; p++) {
                OneNail x = new OneNail();
                x.sheet(0, 0, 60);
                int[] codes = Town.codes("s4;t22303");
                for (int c = 0; c < 9; c++) {
                    x.put(0, i + c, c == p ? 0 : codes[c]);
                }
                Check.due("2 from " + i + " on, fault at " + p, x.street(0, 0, i, 9), -100 - p);
                x.put(0, i + p, codes[p]);
                Check.due("2 from " + i + " on", x.street(0, 0, i, 9), 1);
            }
        }
    }

    /** "UNKNOWN; OUTSIDE: lane; FAULTS CAST (nothing is no CAST), NULL" */
    private static void sheetsAndLanes() {
        for (int k = 0; k < 4; k++) {
            for (int lane = 0; lane < 3; lane++) {
                int sheet = k;
                int made = lane;
                Supplier<OneNail> laid = () -> {
                    OneNail x = new OneNail();
                    Town.lay(x, sheet, made, Town.codes("s4;t22303"));
                    return x;
                };
                for (int as = 0; as < 3; as++) {
                    int taken = as;
                    if (as == lane) {
                        Edge.taken("2 lane " + as, laid, x -> x.street(sheet, taken, 0, 9), 1);
                    } else {
                        Edge.refused("2 lane " + as, laid, x -> x.street(sheet, taken, 0, 9), Edge.CAST);
                    }
                    Edge.refused("2 nothing", laid, x -> x.street(sheet ^ 1, taken, 0, 9), Edge.NULL);
                    Edge.refused("2 none of nothing", laid, x -> x.street(sheet ^ 1, taken, 0, 0), Edge.NULL);
                }
            }
        }
        for (int no : new int[] {-1, 4, Integer.MIN_VALUE, Integer.MAX_VALUE}) {
            Edge.refused("2 sheet " + no, TOWN, x -> x.street(no, 0, 0, 30), UNKNOWN);
        }
        for (int no : new int[] {-1, 3, Integer.MIN_VALUE, Integer.MAX_VALUE}) {
            Edge.refused("2 lane " + no, TOWN, x -> x.street(3, no, 0, 30), OUTSIDE);
        }
    }

    /** "SIZE: n is below 0, INDEX: not all cells are there" */
    private static void allCellsAreThere() {
        Edge.taken("2 all cells", TOWN, x -> x.street(3, 0, 0, 30), 4);
        Edge.refused("2 one too many", TOWN, x -> x.street(3, 0, 0, 31), Edge.INDEX);
        Edge.refused("2 one too far", TOWN, x -> x.street(3, 0, 1, 30), Edge.INDEX);
        Edge.refused("2 from -1 on", TOWN, x -> x.street(3, 0, -1, 30), Edge.INDEX);
        Edge.refused("2 the most", TOWN, x -> x.street(3, 0, 0, Integer.MAX_VALUE), Edge.INDEX);
        Edge.refused("2 wraps to 0", TOWN, x -> x.street(3, 0, 1, Integer.MAX_VALUE), Edge.INDEX);
        Edge.refused("2 wraps to 30", TOWN, x -> x.street(3, 0, Integer.MIN_VALUE + 30, 0), Edge.INDEX);
        Edge.refused("2 n -1", TOWN, x -> x.street(3, 0, 0, -1), Edge.SIZE);
        Edge.refused("2 n least", TOWN, x -> x.street(3, 0, 0, Integer.MIN_VALUE), Edge.SIZE);
        Supplier<OneNail> last = () -> {
            OneNail x = new OneNail();
            x.sheet(0, 1, 60);
            int[] codes = Town.codes("s4;t22303");
            for (int c = 0; c < 9; c++) {
                x.put(0, 51 + c, codes[c]);
            }
            return x;
        };
        Edge.taken("2 the last cells", last, x -> x.street(0, 1, 51, 9), 1);
        Edge.refused("2 behind the last cell", last, x -> x.street(0, 1, 51, 10), Edge.INDEX);
    }

    /** "A TEXT that is taken makes all anew: RUST 0, no READINGS." */
    private static void makesAllAnew() {
        OneNail x = TOWN.get();
        int trace = x.trace();
        Check.due("2 the same TEXT", x.street(3, 0, 0, 30), 4);
        Check.due("2 RUST 0", x.many(2), 0);
        Check.due("2 no READINGS", x.many(3), 0);
        Check.due("2 no READING to take back", x.back(1), OUTSIDE);
        Check.due("2 all ORDERS fit", x.fits(-1), 24);
        Check.due("2 the TEXT's own PLACE", x.many(1), 4);
        Check.due("2 HOLDS without RUST", x.ofThing(0, 5), 30);
        Check.due("2 READINGS are numbered from 0 on", x.reading(0, 0, true), 0);
        Check.due("2 its part of the TEXT", x.street(3, 0, 0, 9), 1);
        Check.due("2 fewer THINGS", x.many(0), 1);
        Check.due("2 the others are gone", x.ofThing(1, 0), UNKNOWN);
        Check.due("2 SHEETS stay", x.cell(2, 2, 1), 9);
        Check.due("2 TRACE stays", x.trace(), trace);
    }

    private static void aFaultyTextMakesNothing() {
        Edge.refused("2 ends too soon", TOWN, x -> x.street(3, 0, 0, 29), -129);
        Edge.refused("2 a wrong first code", TOWN, x -> x.street(3, 0, 2, 28), -100);
        Edge.refused("2 no codes", TOWN, x -> x.street(3, 0, 0, 0), -100);
        Edge.refused("2 no STREET yet", ROWS, x -> x.street(3, 0, 0, 29), -129);
        Supplier<OneNail> lastCode = () -> {
            OneNail x = TOWN.get();
            x.put(3, 29, 48);
            return x;
        };
        Edge.refused("2 a wrong last code", lastCode, x -> x.street(3, 0, 0, 30), -129);
    }

    /** "a THING as many as HOLD tells less RUST (0 .. 50), 1 at least" */
    private static void holdsLessRustOneAtLeast() {
        OneNail x = Town.of("s0;t01011;t01021;t01501;t01511;t01521;t01991");
        int[] holds = {1, 2, 50, 51, 52, 99};
        for (int rust : new int[] {0, 1, 2, 49, 50}) {
            x.rust(rust);
            for (int k = 0; k < 6; k++) {
                Check.due("3 " + holds[k] + " less " + rust, x.ofThing(k, 5), Math.max(1, holds[k] - rust));
                Check.due("3 HOLD is as told", x.ofThing(k, 3), holds[k]);
            }
        }
    }

    /** "a DOOR half of that (cut) more; a COFFIN 10 more than a DOOR" */
    private static void halfIsCut() {
        int[][] want = {{1, 1, 11}, {2, 3, 13}, {3, 4, 14}, {4, 6, 16}, {98, 147, 157}, {99, 148, 158}};
        for (int[] due : want) {
            String numbers = "01" + due[0] / 10 + due[0] % 10 + "1";
            OneNail x = Town.of("s0;t" + numbers + ";d" + numbers + ";c" + numbers);
            for (int kind = 0; kind < 3; kind++) {
                Check.due("3 kind " + kind + " HOLDS " + due[0], x.ofThing(kind, 5), due[kind]);
            }
        }
        // The half is of what RUST has left of HOLD, and the one at least is left ahead of it.
        OneNail x = Town.of("s0;d01051;c01051");
        int[][] rusty = {{7, 17}, {6, 16}, {4, 14}, {3, 13}, {1, 11}, {1, 11}, {1, 11}};
        for (int rust = 0; rust < rusty.length; rust++) {
            x.rust(rust);
            Check.due("3 a DOOR by RUST " + rust, x.ofThing(0, 5), rusty[rust][0]);
            Check.due("3 a COFFIN by RUST " + rust, x.ofThing(1, 5), rusty[rust][1]);
        }
    }

    private static void ofThingsBounds() {
        Edge.takenPlainly("3 the first, what 0", TOWN, x -> x.ofThing(0, 0), 0);
        Edge.takenPlainly("3 the last, what 5", TOWN, x -> x.ofThing(3, 5), 33);
        for (int no : new int[] {-1, 4, Integer.MIN_VALUE, Integer.MAX_VALUE}) {
            Edge.refusedPlainly("3 THING " + no, TOWN, x -> x.ofThing(no, 0), UNKNOWN);
        }
        for (int no : new int[] {-1, 6, Integer.MIN_VALUE, Integer.MAX_VALUE}) {
            Edge.refusedPlainly("3 what " + no, TOWN, x -> x.ofThing(3, no), OUTSIDE);
        }
        Edge.refusedPlainly("3 no STREET", ROWS, x -> x.ofThing(0, 0), UNKNOWN);
        OneNail six = Town.of(SIX);
        Check.due("3 the sixth of six", six.ofThing(5, 1), 5);
        Check.due("3 no seventh of six", six.ofThing(6, 1), UNKNOWN);
    }

    private static void ofThingsLeastAndMost() {
        OneNail x = Town.of("s0;t01011;d55555;c99999");
        int[][] want = {{0, 0, 1, 1, 1, 1}, {1, 5, 5, 55, 5, 82}, {2, 9, 9, 99, 9, 158}};
        for (int k = 0; k < 3; k++) {
            for (int what = 0; what < 6; what++) {
                Check.due("3 of " + k + ", " + what, x.ofThing(k, what), want[k][what]);
            }
        }
    }

    private static void smithysPlaces() {
        for (int place = 0; place <= 9; place++) {
            int to = place;
            Edge.takenPlainly("4 to " + place, TOWN, x -> x.smithy(to), 5);
            OneNail x = TOWN.get();
            x.smithy(place);
            Check.due("4 is at " + place, x.many(1), place);
            Check.due("4 where it was", x.smithy(0), place);
        }
        for (int no : new int[] {-1, 10, Integer.MIN_VALUE, Integer.MAX_VALUE}) {
            Edge.refusedPlainly("4 " + no, TOWN, x -> x.smithy(no), OUTSIDE);
        }
        Edge.refusedPlainly("4 no STREET", ROWS, x -> x.smithy(0), STATE);
        Edge.refusedPlainly("4 no STREET", ROWS, x -> x.smithy(9), STATE);
    }

    private static void rustsBounds() {
        for (int v : new int[] {0, 1, 49, 50}) {
            Edge.takenPlainly("5 to " + v, TOWN, x -> x.rust(v), 7);
            OneNail x = TOWN.get();
            x.rust(v);
            Check.due("5 is " + v, x.many(2), v);
            Check.due("5 what it was", x.rust(0), v);
            Check.due("5 READINGS stay", x.many(3), 2);
        }
        for (int no : new int[] {-1, 51, Integer.MIN_VALUE, Integer.MAX_VALUE}) {
            Edge.refusedPlainly("5 " + no, TOWN, x -> x.rust(no), OUTSIDE);
        }
        Edge.refusedPlainly("5 no STREET", ROWS, x -> x.rust(0), STATE);
        Edge.refusedPlainly("5 no STREET", ROWS, x -> x.rust(50), STATE);
    }

    /** Promise 28: "0 THINGS, 1 the SMITHY's PLACE, 2 RUST, 3 READINGS (0 all without a STREET). OUTSIDE." */
    private static void manysBounds() {
        int[] want = {4, 5, 7, 2};
        for (int k = 0; k < 4; k++) {
            int what = k;
            Edge.takenPlainly("28 " + k, TOWN, x -> x.many(what), want[k]);
            Edge.takenPlainly("28 without a STREET " + k, ROWS, x -> x.many(what), 0);
        }
        for (int no : new int[] {-1, 4, Integer.MIN_VALUE, Integer.MAX_VALUE}) {
            Edge.refusedPlainly("28 " + no, TOWN, x -> x.many(no), OUTSIDE);
            Edge.refusedPlainly("28 without a STREET " + no, ROWS, x -> x.many(no), OUTSIDE);
        }
    }
}
