import java.util.function.Supplier;

/** "==== 2" and promises 6 to 9: each boundary that a sentence there names, on both sides. */
public final class EdgeRoundTest {
    private static final int UNKNOWN = OneNail.UNKNOWN;
    private static final int OUTSIDE = OneNail.OUTSIDE;
    private static final int NONE = OneNail.NONE;
    private static final int[] FAR = {Integer.MIN_VALUE, Integer.MIN_VALUE + 1, Integer.MAX_VALUE};
    private static final Supplier<OneNail> TOWN = Edge.TOWN;

    public static void main(String[] args) {
        for (int k = 0; k < Edge.ROUNDS.length; k++) {
            String at = (6 + k) + " ";
            oneToEightCells(at, Edge.ROUNDS[k]);
            sheetsAndLanes(at, Edge.ROUNDS[k]);
            cellsThatAreThere(at, Edge.ROUNDS[k]);
            cellsThatAreThings(at, Edge.ROUNDS[k]);
            cellsAreCutToTheirLane(at, Edge.ROUNDS[k]);
        }
        aMinuteForEachPlace();
        staysIn();
        theFirstOneAgain();
        upTillItsHolds();
        upTillInAndHolds();
        downUntilItComes();
        eightOfARow();
        aComingEveryMinute();
        theLastOfTheRowIsLate();
        eachRoundIsGoneAnew();
        harmsMinutes();
        fallsBelowT();
        harmIsSummedUp();
        fallsBelow300();
        fallsNumber();
        fallsByMinutesThenByThings();
        neverIsForAllThings();
        nailsMinutes();
        inTheMinuteInWhichItLeaves();
        Check.end();
    }

    /**
     * By the round 0, 1 the nail comes to 0 at 0, 20, 40 and so on, and it never falls; to 1 at 10, 30, 50 and so on,
     * and leaves it a minute later.
     */
    private static OneNail pair(int hold) {
        return Edge.of("s0;t01991;t91" + hold / 10 + hold % 10 + "1", 0, 1).get();
    }

    /** "A ROUND is a row of 1 to 8 THINGS"; "OUTSIDE: n is not 1 .. 8" */
    private static void oneToEightCells(String at, Edge.Round round) {
        Edge.refused(at + "n 0", TOWN, x -> round.of(x, 0, 2, 0, 0), OUTSIDE);
        Edge.refused(at + "n 9", TOWN, x -> round.of(x, 0, 2, 0, 9), OUTSIDE);
        Edge.refused(at + "n 11", TOWN, x -> round.of(x, 0, 2, 0, 11), OUTSIDE);
        Edge.refused(at + "n -1", TOWN, x -> round.of(x, 0, 2, 0, -1), Edge.SIZE);
        for (int n = 1; n <= 8; n++) {
            int cells = n;
            OneNail x = TOWN.get();
            x.put(1, 0, 0);
            int got = round.of(x, 0, 2, 0, cells);
            Check.holds(at + "n " + n, got >= 0 || got == NONE);
            Check.due(at + "fault() of n " + n, x.fault(), 0);
            Edge.changesNothing(at + "n " + n, TOWN, y -> round.of(y, 0, 2, 0, cells));
        }
    }

    /** "UNKNOWN: SHEET; OUTSIDE: lane; FAULTS CAST, NULL" */
    private static void sheetsAndLanes(String at, Edge.Round round) {
        int want = round.of(Edge.of(Edge.TEXT, 0, 1, 2, 3).get(), 0, 2, 0, 4);
        for (int k = 0; k < 3; k++) {
            for (int lane = 0; lane < 3; lane++) {
                int sheet = k;
                int made = lane;
                Supplier<OneNail> laid = () -> {
                    OneNail x = Town.of(Edge.TEXT);
                    Town.lay(x, sheet, made, 0, 1, 2, 3);
                    return x;
                };
                for (int as = 0; as < 3; as++) {
                    int taken = as;
                    if (as == lane) {
                        Edge.taken(at + "lane " + as, laid, x -> round.of(x, sheet, taken, 0, 4), want);
                    } else {
                        Edge.refused(at + "lane " + as, laid, x -> round.of(x, sheet, taken, 0, 4), Edge.CAST);
                    }
                    Edge.refused(at + "nothing", laid, x -> round.of(x, (sheet + 1) % 3, taken, 0, 4), Edge.NULL);
                }
            }
        }
        Supplier<OneNail> last = () -> {
            OneNail x = Town.of(Edge.TEXT);
            Town.lay(x, 3, 1, 0, 1, 2, 3);
            return x;
        };
        Edge.taken(at + "sheet 3", last, x -> round.of(x, 3, 1, 0, 4), want);
        for (int no : new int[] {-1, 4, Integer.MIN_VALUE, Integer.MAX_VALUE}) {
            Edge.refused(at + "sheet " + no, TOWN, x -> round.of(x, no, 2, 0, 4), UNKNOWN);
        }
        for (int no : new int[] {-1, 3, Integer.MIN_VALUE, Integer.MAX_VALUE}) {
            Edge.refused(at + "lane " + no, TOWN, x -> round.of(x, 0, no, 0, 4), OUTSIDE);
        }
    }

    /** "INDEX"; the last cell of a row of 60 is there, the next one is not. */
    private static void cellsThatAreThere(String at, Edge.Round round) {
        Supplier<OneNail> sixty = () -> {
            OneNail x = Town.of("s0;t01991");
            Check.due("18 sixty", x.sheet(0, 2, 60), 1);
            return x;
        };
        int want = round.of(sixty.get(), 0, 2, 0, 1);
        Edge.taken(at + "the last cell", sixty, x -> round.of(x, 0, 2, 59, 1), want);
        Edge.taken(at + "the last eight cells", sixty, x -> round.of(x, 0, 2, 52, 8), want);
        Edge.refused(at + "eight from 53 on", sixty, x -> round.of(x, 0, 2, 53, 8), Edge.INDEX);
        Edge.refused(at + "behind the last cell", sixty, x -> round.of(x, 0, 2, 60, 1), Edge.INDEX);
        Edge.refused(at + "ahead of the first cell", sixty, x -> round.of(x, 0, 2, -1, 1), Edge.INDEX);
        for (int i : FAR) {
            Edge.refused(at + "from " + i + " on", sixty, x -> round.of(x, 0, 2, i, 8), Edge.INDEX);
        }
    }

    /** "UNKNOWN: a THING" */
    private static void cellsThatAreThings(String at, Edge.Round round) {
        for (int cell = 0; cell < 3; cell++) {
            for (int no : new int[] {-1, 2, 256, Integer.MIN_VALUE, Integer.MAX_VALUE}) {
                int[] row = {0, 1, 0};
                row[cell] = no;
                Supplier<OneNail> laid = Edge.of("s0;t01991;t91991", row);
                Edge.refused(at + no + " at " + cell, laid, x -> round.of(x, 0, 2, 0, 3), UNKNOWN);
            }
        }
        // What stands ahead of the cells and behind them is no part of the round.
        int want = round.of(Edge.of("s0;t01991;t91991", 0, 1).get(), 0, 2, 0, 2);
        Supplier<OneNail> between = Edge.of("s0;t01991;t91991", -1, 0, 1, 2);
        Edge.taken(at + "the cells between", between, x -> round.of(x, 0, 2, 1, 2), want);
        Edge.refused(at + "the cell ahead, too", between, x -> round.of(x, 0, 2, 0, 3), UNKNOWN);
        Edge.refused(at + "the cell behind, too", between, x -> round.of(x, 0, 2, 1, 3), UNKNOWN);
    }

    private static void cellsAreCutToTheirLane(String at, Edge.Round round) {
        Supplier<OneNail> laid = () -> {
            OneNail x = Town.of("s0;t01991");
            Town.lay(x, 0, 0, 256, 255);
            Town.lay(x, 1, 1, 65536, 256);
            Town.lay(x, 2, 2, 0, 65536);
            return x;
        };
        int want = round.of(laid.get(), 2, 2, 0, 1);
        Edge.taken(at + "256, a byte", laid, x -> round.of(x, 0, 0, 0, 1), want);
        Edge.refused(at + "255, a byte", laid, x -> round.of(x, 0, 0, 1, 1), UNKNOWN);
        Edge.taken(at + "65536, a short", laid, x -> round.of(x, 1, 1, 0, 1), want);
        Edge.refused(at + "256, a short", laid, x -> round.of(x, 1, 1, 1, 1), UNKNOWN);
        Edge.refused(at + "65536, an int", laid, x -> round.of(x, 2, 2, 1, 1), UNKNOWN);
    }

    /** "The NAIL goes to the first of the row, a minute for each PLACE between" */
    private static void aMinuteForEachPlace() {
        for (int from = 0; from <= 9; from++) {
            for (int to = 0; to <= 9; to++) {
                OneNail x = Edge.of("s" + from + ";t" + to + "1991", 0).get();
                int way = Math.abs(to - from);
                for (int t = 0; t < way; t++) {
                    Check.due("9 from " + from + " to " + to + " at " + t, x.nail(0, 2, 0, 1, t), NONE);
                }
                Check.due("9 from " + from + " to " + to, x.nail(0, 2, 0, 1, way), 0);
            }
        }
    }

    /** "stays IN so many minutes, goes to the next one" */
    private static void staysIn() {
        for (int in = 1; in <= 9; in++) {
            OneNail x = Edge.of("s0;t0" + in + "991;t21991", 0, 1).get();
            Check.due("9 at 0", x.nail(0, 2, 0, 2, 0), 0);
            Check.due("9 the last of IN " + in, x.nail(0, 2, 0, 2, in - 1), 0);
            Check.due("9 behind IN " + in, x.nail(0, 2, 0, 2, in), NONE);
            Check.due("9 still on its way", x.nail(0, 2, 0, 2, in + 1), NONE);
            Check.due("9 the next one", x.nail(0, 2, 0, 2, in + 2), 1);
        }
    }

    /** "behind the last one comes the first one again, for ever" */
    private static void theFirstOneAgain() {
        OneNail x = pair(99);
        for (int t = 0; t < 300; t++) {
            int want = t % 20 == 0 ? 0 : t % 20 == 10 ? 1 : NONE;
            Check.due("9 at " + t, x.nail(0, 2, 0, 2, t), want);
        }
        OneNail alone = Edge.of("s0;t01011", 0).get();
        for (int t = 0; t < 300; t++) {
            Check.due("9 alone at " + t, alone.nail(0, 2, 0, 1, t), 0);
        }
        Check.due("7 alone it never falls", alone.never(0, 2, 0, 1), 1);
    }

    /** "all THINGS are UP, and would be till the minute that is their HOLDS"; "just then is soon enough" */
    private static void upTillItsHolds() {
        for (int place = 1; place <= 9; place++) {
            OneNail soon = Edge.of("s0;t" + place + "10" + place + "1", 0).get();
            Check.due("7 just then at " + place, soon.never(0, 2, 0, 1), 1);
            Check.due("8 just then at " + place, soon.fall(0, 2, 0, 1, -1), 0);
            Check.due("6 just then at " + place, soon.harm(0, 2, 0, 1, 300), 0);
        }
        for (int place = 2; place <= 9; place++) {
            OneNail late = Edge.of("s0;t" + place + "10" + (place - 1) + "1", 0).get();
            Check.due("7 a minute late at " + place, late.never(0, 2, 0, 1), 0);
            Check.due("8 a minute late at " + place, late.fall(0, 2, 0, 1, 0), 10 * (place - 1));
            Check.due("8 once", late.fall(0, 2, 0, 1, -1), 1);
        }
        Check.due("8 late by two at 9", pair(8).fall(0, 2, 0, 2, 0), 81);
        Check.due("8 late by one at 10", pair(9).fall(0, 2, 0, 2, 0), 91);
        Check.due("8 just then at 10", pair(10).fall(0, 2, 0, 2, 0), 211);
    }

    /** "that is UP ..., and would be till minute m and IN and HOLDS"; "just then is soon enough" */
    private static void upTillInAndHolds() {
        for (int in = 1; in <= 9; in++) {
            OneNail soon = Edge.of("s0;t0" + in + "191;t91991", 0, 1).get();
            Check.due("7 just then, IN " + in, soon.never(0, 2, 0, 2), 1);
            Check.due("8 just then, IN " + in, soon.fall(0, 2, 0, 2, -1), 0);
            OneNail late = Edge.of("s0;t0" + in + "181;t91991", 0, 1).get();
            Check.due("7 a minute late, IN " + in, late.never(0, 2, 0, 2), 0);
            Check.due("8 a minute late, IN " + in, late.fall(0, 2, 0, 2, 0), 10 * (in + 18));
            Check.due("8 and so on, IN " + in, late.fall(0, 2, 0, 2, 1), 10 * (in + 19 + in + 18));
        }
        Check.due("7 the second of the row, late", pair(18).never(0, 2, 0, 2), 0);
        Check.due("8 the second of the row, late", pair(18).fall(0, 2, 0, 2, 0), 291);
        Check.due("7 the second of the row, just then", pair(19).never(0, 2, 0, 2), 1);
    }

    /** "(if it was down, it is put up)"; "and is down until it does" */
    private static void downUntilItComes() {
        // Up from 10 on till 12, from 30 on till 32: 15 times, and ahead of that till 1.
        OneNail x = pair(1);
        Check.due("8 falls once till the nail comes", x.fall(0, 2, 0, 2, 0), 11);
        Check.due("8 falls again when it was put up", x.fall(0, 2, 0, 2, 1), 121);
        Check.due("8 and again", x.fall(0, 2, 0, 2, 2), 321);
        Check.due("8 how many", x.fall(0, 2, 0, 2, -1), 16);
        // What the nail never comes to falls once.
        OneNail left = Edge.of("s0;t01991;t91011", 0).get();
        Check.due("8 once", left.fall(0, 2, 0, 1, -1), 1);
        Check.due("6 once", left.harm(0, 2, 0, 1, 300), 1);
    }

    private static void eightOfARow() {
        // Seven times 0, each a minute, then 1: comes to it at 16, back to 0 at 26.
        OneNail x = Edge.of("s0;t01191;t91251", 0, 0, 0, 0, 0, 0, 0, 1).get();
        Check.due("9 the seventh", x.nail(0, 2, 0, 8, 6), 0);
        Check.due("9 on its way", x.nail(0, 2, 0, 8, 7), NONE);
        Check.due("9 the eighth", x.nail(0, 2, 0, 8, 16), 1);
        Check.due("9 the first again", x.nail(0, 2, 0, 8, 26), 0);
        Check.due("7 just then, both", x.never(0, 2, 0, 8), 1);
        x.rust(1);
        Check.due("7 a minute late, both", x.never(0, 2, 0, 8), 0);
        Check.due("8 the first", x.fall(0, 2, 0, 8, 0), 250);
        Check.due("8 the eighth", x.fall(0, 2, 0, 8, 1), 411);
    }

    /** No nail comes more often; to the second it comes at 299, just when it would fall. */
    private static void aComingEveryMinute() {
        OneNail x = Edge.of("s0;t01011;t01011", 0, 1).get();
        Check.due("9 at 298", x.nail(0, 2, 0, 2, 298), 0);
        Check.due("9 at 299", x.nail(0, 2, 0, 2, 299), 1);
        Check.due("7 just then every minute", x.never(0, 2, 0, 2), 1);
        Check.due("8 just then every minute", x.fall(0, 2, 0, 2, -1), 0);
        Check.due("6 just then every minute", x.harm(0, 2, 0, 2, 300), 0);
    }

    /** The first time it is just then, the second time behind the whole row it is not. */
    private static void theLastOfTheRowIsLate() {
        String five = "s0;t01991;t01991;t01991;t01991;t01991";
        OneNail late = Edge.of(five + ";t11081", 0, 0, 0, 1, 2, 3, 4, 5).get();
        Check.due("9 the last of the row", late.nail(0, 2, 0, 8, 8), 5);
        Check.due("7 the last of the row is late", late.never(0, 2, 0, 8), 0);
        Check.due("8 the last of the row is late", late.fall(0, 2, 0, 8, 0), 175);
        OneNail soon = Edge.of(five + ";t11091", 0, 0, 0, 1, 2, 3, 4, 5).get();
        Check.due("7 the last of the row, just then", soon.never(0, 2, 0, 8), 1);
        Check.due("8 the last of the row, just then", soon.fall(0, 2, 0, 8, -1), 0);
    }

    /** What fell by one round has not fallen by the next one that is asked for. */
    private static void eachRoundIsGoneAnew() {
        OneNail x = Edge.of("s0;t01031;t11031", 0, 1, 1, 1).get();
        Check.due("8 late by the long round", x.fall(0, 2, 0, 4, 0), 40);
        Check.due("8 none by the short one", x.fall(0, 2, 0, 2, -1), 0);
        Check.due("6 late by the long round", x.harm(0, 2, 0, 4, 5), 1);
        Check.due("6 none by the short one", x.harm(0, 2, 0, 2, 5), 0);
        Check.due("7 late by the long round", x.never(0, 2, 0, 4), 0);
        Check.due("7 none by the short one", x.never(0, 2, 0, 2), 1);
    }

    /** "till minute t (1 .. 300)"; "OUTSIDE: t (with the lane)" */
    private static void harmsMinutes() {
        Edge.refused("6 t 0", TOWN, x -> x.harm(0, 2, 0, 4, 0), OUTSIDE);
        Edge.taken("6 t 1", TOWN, x -> x.harm(0, 2, 0, 4, 1), 0);
        Edge.taken("6 t 300", Edge.of("s0;t01991;t91081", 0, 1), x -> x.harm(0, 2, 0, 2, 300), 16);
        Edge.refused("6 t 301", TOWN, x -> x.harm(0, 2, 0, 4, 301), OUTSIDE);
        Edge.refused("6 t -1", TOWN, x -> x.harm(0, 2, 0, 4, -1), OUTSIDE);
        for (int t : FAR) {
            Edge.refused("6 t " + t, TOWN, x -> x.harm(0, 2, 0, 4, t), OUTSIDE);
        }
    }

    /** "of each FALL at a minute below t" */
    private static void fallsBelowT() {
        OneNail early = pair(1);
        Check.due("6 falls at 1, t 1", early.harm(0, 2, 0, 2, 1), 0);
        Check.due("6 falls at 1, t 2", early.harm(0, 2, 0, 2, 2), 1);
        OneNail x = pair(8);
        Check.due("6 falls at 8, t 8", x.harm(0, 2, 0, 2, 8), 0);
        Check.due("6 falls at 8, t 9", x.harm(0, 2, 0, 2, 9), 1);
        Check.due("6 falls at 299, t 299", x.harm(0, 2, 0, 2, 299), 15);
        Check.due("6 falls at 299, t 300", x.harm(0, 2, 0, 2, 300), 16);
        Check.due("6 falls at 300, t 300", pair(9).harm(0, 2, 0, 2, 300), 15);
    }

    private static void harmIsSummedUp() {
        OneNail x = Edge.of("s0;t01991;t91081;t91083;t91089", 0).get();
        Check.due("6 three at a minute, t 8", x.harm(0, 2, 0, 1, 8), 0);
        Check.due("6 three at a minute, t 9", x.harm(0, 2, 0, 1, 9), 13);
        Check.due("6 those that are left out", x.harm(0, 2, 0, 1, 300), 13);
        OneNail first = Edge.of("s0;t91085;t01991", 1).get();
        Check.due("6 the first THING's, t 8", first.harm(0, 2, 0, 1, 8), 0);
        Check.due("6 the first THING's, t 9", first.harm(0, 2, 0, 1, 9), 5);
        OneNail six = Edge.of("s0;t01991;t91081;t91081;t91081;t91081;t91089", 0).get();
        Check.due("6 the sixth THING's, t 8", six.harm(0, 2, 0, 1, 8), 0);
        Check.due("6 the sixth THING's, t 9", six.harm(0, 2, 0, 1, 9), 13);
        // 16 falls of a HARM of 9.
        Check.due("6 again and again", Edge.of("s0;t01991;t91089", 0, 1).get().harm(0, 2, 0, 2, 300), 144);
    }

    /** "The k-th FALL ... at a minute below 300" */
    private static void fallsBelow300() {
        OneNail at299 = pair(8);
        Check.due("8 how many, the last at 299", at299.fall(0, 2, 0, 2, -1), 16);
        Check.due("8 at 299", at299.fall(0, 2, 0, 2, 15), 2991);
        Check.due("8 none behind it", at299.fall(0, 2, 0, 2, 16), NONE);
        OneNail at300 = pair(9);
        Check.due("8 how many, one at 300", at300.fall(0, 2, 0, 2, -1), 15);
        Check.due("8 at 280", at300.fall(0, 2, 0, 2, 14), 2801);
        Check.due("8 none at 300", at300.fall(0, 2, 0, 2, 15), NONE);
    }

    /** "(0 on ...)"; "NONE: there are fewer; how many (k -1)"; "UNKNOWN: k below -1 (with the SHEET)" */
    private static void fallsNumber() {
        Supplier<OneNail> laid = Edge.of("s0;t01991;t91081", 0, 1);
        Edge.refused("8 k -2", laid, x -> x.fall(0, 2, 0, 2, -2), UNKNOWN);
        Edge.refused("8 k least", laid, x -> x.fall(0, 2, 0, 2, Integer.MIN_VALUE), UNKNOWN);
        Edge.taken("8 k -1", laid, x -> x.fall(0, 2, 0, 2, -1), 16);
        Edge.taken("8 k 0", laid, x -> x.fall(0, 2, 0, 2, 0), 81);
        Edge.taken("8 k 15", laid, x -> x.fall(0, 2, 0, 2, 15), 2991);
        Edge.taken("8 k 16", laid, x -> x.fall(0, 2, 0, 2, 16), NONE);
        Edge.taken("8 k most", laid, x -> x.fall(0, 2, 0, 2, Integer.MAX_VALUE), NONE);
        Supplier<OneNail> none = Edge.of("s0;t01991", 0);
        Edge.taken("8 none, k -1", none, x -> x.fall(0, 2, 0, 1, -1), 0);
        Edge.taken("8 none, k 0", none, x -> x.fall(0, 2, 0, 1, 0), NONE);
    }

    private static void fallsByMinutesThenByThings() {
        OneNail x = Edge.of("s0;t91051;t91041;t91051;t01991;t91041;t91031", 3).get();
        int[] want = {35, 41, 44, 50, 52};
        for (int k = 0; k < want.length; k++) {
            Check.due("8 fall " + k, x.fall(0, 2, 0, 1, k), want[k]);
        }
        Check.due("8 no more", x.fall(0, 2, 0, 1, 5), NONE);
        Check.due("8 how many", x.fall(0, 2, 0, 1, -1), 5);
    }

    /** "NEVER: whether no THING ever FALLS by a ROUND", those that are left out of it, too. */
    private static void neverIsForAllThings() {
        OneNail x = Edge.of("s0;t01991;c01991", 0, 1).get();
        Check.due("7 both", x.never(0, 2, 0, 2), 1);
        Check.due("7 the second is left out", x.never(0, 2, 0, 1), 0);
        Check.due("8 it falls at 158", x.fall(0, 2, 0, 1, 0), 1581);
        Check.due("7 the first is left out", x.never(0, 2, 1, 1), 0);
        Check.due("8 it falls at 99", x.fall(0, 2, 1, 1, 0), 990);
        // Late over the end of the row alone, within it just then: 0, 0 and 1, 1 next to one another.
        OneNail end = Edge.of("s0;t01991;t11021", 0, 1, 1).get();
        Check.due("7 late over the end of the row", end.never(0, 2, 0, 3), 0);
        Check.due("8 late over the end of the row", end.fall(0, 2, 0, 3, 0), 61);
        OneNail soon = Edge.of("s0;t01991;t11031", 0, 1, 1).get();
        Check.due("7 just then over the end of the row", soon.never(0, 2, 0, 3), 1);
    }

    /** "at a minute t (0 .. 299)"; "OUTSIDE: t (with the lane)" */
    private static void nailsMinutes() {
        Supplier<OneNail> laid = Edge.of("s0;t01991;t91081", 0, 1);
        Edge.refused("9 t -1", laid, x -> x.nail(0, 2, 0, 2, -1), OUTSIDE);
        Edge.taken("9 t 0", laid, x -> x.nail(0, 2, 0, 2, 0), 0);
        Edge.taken("9 t 290", laid, x -> x.nail(0, 2, 0, 2, 290), 1);
        Edge.taken("9 t 299", laid, x -> x.nail(0, 2, 0, 2, 299), NONE);
        Edge.taken("9 t 299, alone", laid, x -> x.nail(0, 2, 0, 1, 299), 0);
        Edge.refused("9 t 300", laid, x -> x.nail(0, 2, 0, 2, 300), OUTSIDE);
        Edge.refused("9 t 300, alone", laid, x -> x.nail(0, 2, 0, 1, 300), OUTSIDE);
        for (int t : FAR) {
            Edge.refused("9 t " + t, laid, x -> x.nail(0, 2, 0, 2, t), OUTSIDE);
        }
    }

    /** "(In the minute in which it leaves it is on its way, but if it comes to the next one in it.)" */
    private static void inTheMinuteInWhichItLeaves() {
        OneNail next = Edge.of("s0;t02991;t12991", 0, 1).get();
        int[] way = {0, 0, NONE, 1, 1, NONE, 0, 0, NONE, 1};
        OneNail here = Edge.of("s0;t02991;t02991", 0, 1).get();
        int[] none = {0, 0, 1, 1, 0, 0, 1, 1, 0, 0};
        OneNail same = Edge.of("s0;t02991;t12991", 0, 0, 1).get();
        int[] twice = {0, 0, 0, 0, NONE, 1, 1, NONE, 0, 0};
        for (int t = 0; t < 10; t++) {
            Check.due("9 a PLACE away at " + t, next.nail(0, 2, 0, 2, t), way[t]);
            Check.due("9 at the same PLACE at " + t, here.nail(0, 2, 0, 2, t), none[t]);
            Check.due("9 the same THING at " + t, same.nail(0, 2, 0, 3, t), twice[t]);
        }
    }
}
