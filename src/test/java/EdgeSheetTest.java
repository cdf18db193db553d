import java.util.function.Supplier;

/** "==== 5" and promises 18 to 27: each boundary that a sentence there names, on both sides. */
public final class EdgeSheetTest {
    private static final int UNKNOWN = OneNail.UNKNOWN;
    private static final int OUTSIDE = OneNail.OUTSIDE;
    private static final int[] NO_SHEETS = {-1, 4, Integer.MIN_VALUE, Integer.MAX_VALUE};
    private static final int[] NO_LANES = {-1, 3, Integer.MIN_VALUE, Integer.MAX_VALUE};
    private static final Supplier<OneNail> TOWN = Edge.TOWN;
    private static final Supplier<OneNail> ROWS = Edge.ROWS;
    private static final Supplier<OneNail> BARE = Edge.BARE;

    public static void main(String[] args) {
        sheetsHaveNothingAtFirst();
        sheetsOf0To60();
        rowsAre0AtFirst();
        sheetsBounds();
        losesNothing();
        putsBounds();
        cutToItsLane();
        cellsBounds();
        cellsLanes();
        copysSheets();
        copysLanes();
        copysCells();
        asTheyWere();
        tellsThings();
        strikesThings();
        asKinds();
        traceWraps();
        refusedLeavesNoTrace();
        faultOfTheLatest();
        faultIsKept();
        Check.end();
    }

    private static OneNail row(int lane, int n) {
        OneNail x = new OneNail();
        Check.due("18 a row", x.sheet(0, lane, n), 1);
        return x;
    }

    /** "SHEETS 0 .. 3 have nothing (at first)" */
    private static void sheetsHaveNothingAtFirst() {
        for (int k = 0; k < 4; k++) {
            int sheet = k;
            Edge.refused("20 nothing on " + k, BARE, x -> x.put(sheet, 0, 1), Edge.NULL);
            Edge.lost("21 nothing on " + k, BARE, x -> x.cell(sheet, 0, 0), 1);
            Edge.takenPlainly("19 nothing on " + k, BARE, x -> x.lose(sheet), 0);
        }
    }

    /** "a row of 0 .. 60 numbers"; "OUTSIDE: lane, n above 60; SIZE" */
    private static void sheetsOf0To60() {
        for (int lane = 0; lane < 3; lane++) {
            int of = lane;
            Edge.taken("18 n 0", TOWN, x -> x.sheet(2, of, 0), 1);
            Edge.taken("18 n 60", TOWN, x -> x.sheet(2, of, 60), 1);
            Edge.refused("18 n 61", TOWN, x -> x.sheet(2, of, 61), OUTSIDE);
            Edge.refused("18 n most", TOWN, x -> x.sheet(2, of, Integer.MAX_VALUE), OUTSIDE);
            Edge.refused("18 n -1", TOWN, x -> x.sheet(2, of, -1), Edge.SIZE);
            Edge.refused("18 n least", TOWN, x -> x.sheet(2, of, Integer.MIN_VALUE), Edge.SIZE);
            for (int n : new int[] {0, 1, 59, 60}) {
                Supplier<OneNail> made = () -> row(of, n);
                if (n > 0) {
                    Edge.taken("20 the last of " + n, made, x -> x.put(0, n - 1, 5), 1);
                    Edge.taken("21 the last of " + n, made, x -> x.cell(0, n - 1, of), 0);
                }
                Edge.refused("20 behind the last of " + n, made, x -> x.put(0, n, 5), Edge.INDEX);
                Edge.lost("21 behind the last of " + n, made, x -> x.cell(0, n, of), 3);
            }
        }
    }

    /** "(0 at first)"; "A SHEET gets a new row" */
    private static void rowsAre0AtFirst() {
        for (int lane = 0; lane < 3; lane++) {
            OneNail x = row(lane, 60);
            for (int i = 0; i < 60; i++) {
                Check.due("21 0 at first", x.cell(0, i, lane), 0);
                Check.due("20 put", x.put(0, i, i + 1), 1);
            }
            Check.due("18 a shorter row", x.sheet(0, lane, 1), 1);
            Check.due("21 0 again", x.cell(0, 0, lane), 0);
            Check.due("21 shorter", x.cell(0, 1, lane), OneNail.LOST);
            Check.due("18 a new row", x.sheet(0, lane, 60), 1);
            for (int i = 0; i < 60; i++) {
                Check.due("21 0 at first, again", x.cell(0, i, lane), 0);
            }
            x.put(0, 59, 7);
            Check.due("19 lost", x.lose(0), 1);
            Check.due("18 a new row", x.sheet(0, lane, 60), 1);
            Check.due("21 0 behind a loss", x.cell(0, 59, lane), 0);
            Check.due("18 of another lane", x.sheet(0, (lane + 1) % 3, 2), 1);
            Check.due("21 no more of this", x.cell(0, 0, lane), OneNail.LOST);
            Check.due("27 CAST", x.fault(), 2);
            Check.due("21 of that", x.cell(0, 0, (lane + 1) % 3), 0);
        }
    }

    private static void sheetsBounds() {
        Edge.taken("18 sheet 0", TOWN, x -> x.sheet(0, 0, 1), 1);
        Edge.taken("18 sheet 3", TOWN, x -> x.sheet(3, 2, 1), 1);
        for (int k : NO_SHEETS) {
            Edge.refused("18 sheet " + k, TOWN, x -> x.sheet(k, 0, 1), UNKNOWN);
        }
        for (int lane : NO_LANES) {
            Edge.refused("18 lane " + lane, TOWN, x -> x.sheet(2, lane, 1), OUTSIDE);
            Edge.refused("18 lane " + lane + ", none", TOWN, x -> x.sheet(2, lane, 0), OUTSIDE);
        }
        // A refused row leaves nothing where there was nothing.
        Edge.refused("18 nothing stays", BARE, x -> x.sheet(0, 0, 61), OUTSIDE);
        Edge.refused("18 nothing stays", BARE, x -> x.sheet(0, 0, -1), Edge.SIZE);
    }

    /** "A SHEET has nothing: 1; 0: it had nothing. UNKNOWN." */
    private static void losesNothing() {
        Edge.takenPlainly("19 a row", TOWN, x -> x.lose(0), 1);
        Edge.takenPlainly("19 a row of none", () -> row(1, 0), x -> x.lose(0), 1);
        Edge.takenPlainly("19 nothing", TOWN, x -> x.lose(1), 0);
        Edge.takenPlainly("19 the last sheet", TOWN, x -> x.lose(3), 1);
        Edge.changesNothing("19 nothing", TOWN, x -> x.lose(1));
        for (int k : NO_SHEETS) {
            Edge.refusedPlainly("19 sheet " + k, TOWN, x -> x.lose(k), UNKNOWN);
        }
        OneNail x = TOWN.get();
        x.lose(0);
        Check.due("19 it has nothing", x.put(0, 0, 1), Edge.NULL);
        Check.due("19 nothing once more", x.lose(0), 0);
        Check.due("19 the others stay", x.cell(2, 0, 1), 7);
        Check.due("19 the STREET stays", x.many(0), 4);
    }

    /** "Cell i of a SHEET becomes v: 1. UNKNOWN; NULL; INDEX." */
    private static void putsBounds() {
        Edge.taken("20 the first", TOWN, x -> x.put(2, 0, 5), 1);
        Edge.taken("20 the last", TOWN, x -> x.put(2, 2, 5), 1);
        for (int i : new int[] {-1, 3, Integer.MIN_VALUE, Integer.MAX_VALUE}) {
            Edge.refused("20 cell " + i, TOWN, x -> x.put(2, i, 5), Edge.INDEX);
        }
        for (int k : NO_SHEETS) {
            Edge.refused("20 sheet " + k, TOWN, x -> x.put(k, 0, 5), UNKNOWN);
        }
        Edge.refused("20 nothing", TOWN, x -> x.put(1, 0, 5), Edge.NULL);
        OneNail x = TOWN.get();
        x.put(2, 1, 5);
        Check.due("20 the one ahead stays", x.cell(2, 0, 1), 7);
        Check.due("20 it becomes 5", x.cell(2, 1, 1), 5);
        Check.due("20 the one behind stays", x.cell(2, 2, 1), 9);
    }

    private static void cut(int lane, int v, long want) {
        OneNail x = row(lane, 1);
        Check.due("20 " + v, x.put(0, 0, v), 1);
        Check.due("21 " + v + " in lane " + lane, x.cell(0, 0, lane), want);
    }

    /** "what comes to a cell of it is cut to its LANE" */
    private static void cutToItsLane() {
        int[] bytes = {127, 128, 255, 256, 257, -128, -129, -1, 32767, 32768, 65535, 65536};
        long[] byteWant = {127, -128, -1, 0, 1, -128, 127, -1, -1, 0, -1, 0};
        for (int k = 0; k < bytes.length; k++) {
            cut(0, bytes[k], byteWant[k]);
        }
        int[] shorts = {127, 128, 32767, 32768, 65535, 65536, 65537, -32768, -32769, -1};
        long[] shortWant = {127, 128, 32767, -32768, -1, 0, 1, -32768, 32767, -1};
        for (int k = 0; k < shorts.length; k++) {
            cut(1, shorts[k], shortWant[k]);
        }
        for (int v : new int[] {0, 128, 32768, 65536, -1, Integer.MAX_VALUE, Integer.MIN_VALUE}) {
            cut(2, v, v);
        }
        cut(0, Integer.MAX_VALUE, -1);
        cut(0, Integer.MIN_VALUE, 0);
        cut(1, Integer.MAX_VALUE, -1);
        cut(1, Integer.MIN_VALUE, 0);
    }

    private static void cellsBounds() {
        Edge.taken("21 the first", TOWN, x -> x.cell(2, 0, 1), 7);
        Edge.taken("21 the last", TOWN, x -> x.cell(2, 2, 1), 9);
        for (int i : new int[] {-1, 3, Integer.MIN_VALUE, Integer.MAX_VALUE}) {
            Edge.lost("21 cell " + i, TOWN, x -> x.cell(2, i, 1), 3);
        }
        for (int k : NO_SHEETS) {
            Edge.lost("21 sheet " + k, TOWN, x -> x.cell(k, 0, 1), 0);
        }
        for (int lane : NO_LANES) {
            Edge.lost("21 lane " + lane, TOWN, x -> x.cell(2, 0, lane), 0);
        }
        Check.due("LOST", OneNail.LOST, Long.MIN_VALUE);
    }

    /** "FAULTS CAST (nothing is no CAST), NULL" */
    private static void cellsLanes() {
        for (int lane = 0; lane < 3; lane++) {
            int of = lane;
            for (int k = 0; k < 3; k++) {
                int as = k;
                if (as == of) {
                    Edge.taken("21 " + of + " as " + as, () -> row(of, 1), x -> x.cell(0, 0, as), 0);
                } else {
                    Edge.lost("21 " + of + " as " + as, () -> row(of, 1), x -> x.cell(0, 0, as), 2);
                    Edge.lost("21 a row of none as another", () -> row(of, 0), x -> x.cell(0, 0, as), 2);
                }
            }
            Edge.lost("21 nothing as " + of, BARE, x -> x.cell(0, 0, of), 1);
        }
    }

    private static OneNail like() {
        OneNail x = new OneNail();
        Town.lay(x, 0, 1, 1, 2, 3);
        Town.lay(x, 1, 1, 11, 12, 13, 14, 15);
        Town.lay(x, 2, 2, 21, 22);
        return x;
    }

    /** "UNKNOWN; FAULTS NULL (the first, the other)" */
    private static void copysSheets() {
        Supplier<OneNail> like = EdgeSheetTest::like;
        for (int k : NO_SHEETS) {
            Edge.refused("22 from " + k, like, x -> x.copy(k, 0, 1, 0, 1), UNKNOWN);
            Edge.refused("22 to " + k, like, x -> x.copy(0, 0, k, 0, 1), UNKNOWN);
            Edge.refused("22 from and to " + k, like, x -> x.copy(k, 0, k, 0, 0), UNKNOWN);
        }
        Edge.refused("22 the first is nothing", like, x -> x.copy(3, 0, 1, 0, 1), Edge.NULL);
        Edge.refused("22 the other is nothing", like, x -> x.copy(0, 0, 3, 0, 1), Edge.NULL);
        Edge.refused("22 both are nothing", like, x -> x.copy(3, 0, 3, 0, 1), Edge.NULL);
        Edge.refused("22 none of nothing", like, x -> x.copy(3, 0, 3, 0, 0), Edge.NULL);
        Edge.taken("22 both are rows", like, x -> x.copy(0, 0, 1, 0, 1), 1);
    }

    /** "CAST (unlike LANES)" */
    private static void copysLanes() {
        for (int k = 0; k < 9; k++) {
            int from = k / 3;
            int to = k % 3;
            Supplier<OneNail> rows = () -> {
                OneNail x = new OneNail();
                x.sheet(0, from, 2);
                x.sheet(3, to, 2);
                return x;
            };
            String what = "22 from lane " + from + " to lane " + to;
            if (from == to) {
                Edge.taken(what, rows, x -> x.copy(0, 0, 3, 0, 2), 2);
                Edge.taken(what + ", none", rows, x -> x.copy(0, 0, 3, 0, 0), 0);
            } else {
                Edge.refused(what, rows, x -> x.copy(0, 0, 3, 0, 2), Edge.CAST);
                Edge.refused(what + ", none", rows, x -> x.copy(0, 0, 3, 0, 0), Edge.CAST);
            }
        }
    }

    /** "INDEX: i, j, n below 0 or beyond" */
    private static void copysCells() {
        Supplier<OneNail> like = EdgeSheetTest::like;
        for (int i = -2; i <= 5; i++) {
            for (int j = -2; j <= 7; j++) {
                for (int n = -2; n <= 7; n++) {
                    int a = i;
                    int b = j;
                    int many = n;
                    boolean there = i >= 0 && j >= 0 && n >= 0 && i + n <= 3 && j + n <= 5;
                    String what = "22 " + n + " from " + i + " to " + j;
                    if (there) {
                        Edge.taken(what, like, x -> x.copy(0, a, 1, b, many), n);
                    } else {
                        Edge.refused(what, like, x -> x.copy(0, a, 1, b, many), Edge.INDEX);
                    }
                }
            }
        }
        for (int far : new int[] {Integer.MIN_VALUE, Integer.MAX_VALUE}) {
            Edge.refused("22 i " + far, like, x -> x.copy(0, far, 1, 0, 1), Edge.INDEX);
            Edge.refused("22 j " + far, like, x -> x.copy(0, 0, 1, far, 1), Edge.INDEX);
            Edge.refused("22 n " + far, like, x -> x.copy(0, 0, 1, 0, far), Edge.INDEX);
            Edge.refused("22 i and n " + far, like, x -> x.copy(0, far, 1, 0, far), Edge.INDEX);
            Edge.refused("22 j and n " + far, like, x -> x.copy(0, 1, 1, far, far), Edge.INDEX);
        }
        Edge.refused("22 a sum that wraps", like, x -> x.copy(0, 1, 1, 1, Integer.MAX_VALUE), Edge.INDEX);
    }

    private static void cells(OneNail x, int k, int lane, int... want) {
        for (int i = 0; i < want.length; i++) {
            Check.due("22 cell " + i + " of " + k, x.cell(k, i, lane), want[i]);
        }
    }

    /** "go to another one (perhaps the same) from j on, as they were" */
    private static void asTheyWere() {
        OneNail x = like();
        Check.due("22 all", x.copy(0, 0, 1, 2, 3), 3);
        cells(x, 1, 1, 11, 12, 1, 2, 3);
        cells(x, 0, 1, 1, 2, 3);
        OneNail up = like();
        Check.due("22 over its own next cells", up.copy(1, 0, 1, 1, 4), 4);
        cells(up, 1, 1, 11, 11, 12, 13, 14);
        OneNail down = like();
        Check.due("22 over its own last cells", down.copy(1, 1, 1, 0, 4), 4);
        cells(down, 1, 1, 12, 13, 14, 15, 15);
        OneNail same = like();
        Check.due("22 upon themselves", same.copy(1, 0, 1, 0, 5), 5);
        cells(same, 1, 1, 11, 12, 13, 14, 15);
        OneNail none = like();
        Check.due("22 none", none.copy(0, 3, 1, 5, 0), 0);
        cells(none, 1, 1, 11, 12, 13, 14, 15);
        OneNail sixty = row(2, 60);
        for (int i = 0; i < 60; i++) {
            sixty.put(0, i, i);
        }
        Check.due("18 another of sixty", sixty.sheet(3, 2, 60), 1);
        Check.due("22 sixty", sixty.copy(0, 0, 3, 0, 60), 60);
        Check.due("22 not sixty-one", sixty.copy(0, 0, 3, 0, 61), Edge.INDEX);
        for (int i = 0; i < 60; i++) {
            Check.due("22 cell " + i, sixty.cell(3, i, 2), i);
        }
    }

    /** "TELLING of a THING. UNKNOWN." */
    private static void tellsThings() {
        Edge.takenPlainly("23 the first, a THING", TOWN, x -> x.tell(0), 30);
        Edge.takenPlainly("23 a DOOR", TOWN, x -> x.tell(1), 118);
        Edge.takenPlainly("23 a COFFIN", TOWN, x -> x.tell(2), 150);
        Edge.takenPlainly("23 the last", TOWN, x -> x.tell(3), 40);
        for (int thing : new int[] {-1, 4, Integer.MIN_VALUE, Integer.MAX_VALUE}) {
            Edge.refusedPlainly("23 THING " + thing, TOWN, x -> x.tell(thing), UNKNOWN);
        }
        Edge.refusedPlainly("23 no STREET", ROWS, x -> x.tell(0), UNKNOWN);
        // HOLD, not how long it HOLDS.
        OneNail x = Town.of("s0;t01011;d01991;c01991");
        x.rust(50);
        Check.due("23 HOLD 1", x.tell(0), 1);
        Check.due("23 a DOOR of HOLD 99", x.tell(1), 199);
        Check.due("23 a COFFIN of HOLD 99", x.tell(2), 298);
    }

    /** "How it is STRUCK. UNKNOWN." */
    private static void strikesThings() {
        OneNail six = Town.of("s0;t01011;d01011;t01011;c01011;t01011;d01011");
        int[] want = {0, 1, 2, 30, 4, 5};
        for (int k = 0; k < 6; k++) {
            Check.due("24 THING " + k, six.strike(k), want[k]);
        }
        Check.due("24 no seventh", six.strike(6), UNKNOWN);
        for (int thing : new int[] {-1, 4, Integer.MIN_VALUE, Integer.MAX_VALUE}) {
            Edge.refusedPlainly("24 THING " + thing, TOWN, x -> x.strike(thing), UNKNOWN);
        }
        Edge.refusedPlainly("24 no STREET", ROWS, x -> x.strike(0), UNKNOWN);
        Edge.takenPlainly("24 the last", TOWN, x -> x.strike(3), 3);
    }

    /** "UNKNOWN; OUTSIDE; CAST: it is none (each is a THING, too; a COFFIN is a DOOR)" */
    private static void asKinds() {
        for (int k = 0; k < 9; k++) {
            int thing = k / 3;
            int kind = k % 3;
            String what = "25 " + thing + " as " + kind;
            if (kind <= thing) {
                Edge.taken(what, TOWN, x -> x.as(thing, kind), 1);
                Edge.changesNothing(what, TOWN, x -> x.as(thing, kind));
            } else {
                Edge.refused(what, TOWN, x -> x.as(thing, kind), Edge.CAST);
            }
        }
        for (int kind : new int[] {-1, 3, Integer.MIN_VALUE, Integer.MAX_VALUE}) {
            for (int k = 0; k < 3; k++) {
                int thing = k;
                Edge.refused("25 " + k + " as " + kind, TOWN, x -> x.as(thing, kind), OUTSIDE);
            }
        }
        for (int thing : new int[] {-1, 4, Integer.MIN_VALUE, Integer.MAX_VALUE}) {
            Edge.refused("25 THING " + thing, TOWN, x -> x.as(thing, 0), UNKNOWN);
        }
        Edge.taken("25 the last THING", TOWN, x -> x.as(3, 0), 1);
        Edge.refused("25 no STREET", ROWS, x -> x.as(0, 0), UNKNOWN);
    }

    /** "TRACE (an int that wraps, 0 at first, becomes 31 times it and the number)" */
    private static void traceWraps() {
        OneNail x = Town.of("s0;t01121;c01121");
        Check.due("26 0 at first", x.trace(), 0);
        int[] want = {4, 128, 3972, 123136, 3817220, 118333824, -626618748};
        for (int k = 0; k < want.length; k++) {
            Check.due("24 strike", x.strike(0), 0);
            Check.due("26 behind strike " + (k + 1), x.trace(), want[k]);
        }
        Check.due("26 the seventh wraps", want[6], (int) (31L * 118333824 + 4));
        Check.due("26 asking leaves nothing", x.trace(), want[6]);
        OneNail coffin = Town.of("s0;c01121");
        Check.due("24 strike", coffin.strike(0), 30);
        Check.due("26 its own body", coffin.trace(), 5);
        Check.due("23 tell", coffin.tell(0), 124);
        Check.due("26 as they begin", coffin.trace(), ((((5 * 31 + 3) * 31 + 2) * 31 + 1) * 31 + 1));
    }

    private static void refusedLeavesNoTrace() {
        OneNail x = Town.of("s0;t01121");
        Check.due("23 tell", x.tell(0), 12);
        Check.due("23 no THING", x.tell(1), UNKNOWN);
        Check.due("24 no THING", x.strike(1), UNKNOWN);
        Check.due("25 taken as what it is", x.as(0, 0), 1);
        Check.due("25 taken as what it is not", x.as(0, 1), Edge.CAST);
        Check.due("26 one body", x.trace(), 1);
    }

    /** "The FAULT of the latest call that names one: 0: it came to none, or was refused (0 ahead of any)." */
    private static void faultOfTheLatest() {
        Check.due("27 ahead of any", new OneNail().fault(), 0);
        Check.due("27 ahead of any that names one", faultAfter(x -> x.many(9)), 0);
        OneNail x = TOWN.get();
        int[] got = {x.put(1, 0, 0), x.fault(), x.as(0, 1), x.fault(), x.put(2, 3, 0), x.fault(), x.sheet(0, 0, -1),
            x.fault(), x.fault(), x.sheet(0, 3, -1), x.fault(), x.put(1, 0, 0), x.fault(), x.as(0, 0), x.fault()};
        int[] want = {-11, 1, -12, 2, -13, 3, -14, 4, 4, OUTSIDE, 0, -11, 1, 1, 0};
        for (int k = 0; k < want.length; k++) {
            Check.due("27 answer " + k, got[k], want[k]);
        }
    }

    private static int faultAfter(java.util.function.ToLongFunction<OneNail> call) {
        OneNail x = new OneNail();
        call.applyAsLong(x);
        return x.fault();
    }

    /** Calls that name no FAULTS leave what fault() tells, taken or refused. */
    private static void faultIsKept() {
        Edge.takenPlainly("27 ofThing", TOWN, x -> x.ofThing(0, 0), 0);
        Edge.takenPlainly("27 smithy", TOWN, x -> x.smithy(3), 5);
        Edge.takenPlainly("27 rust", TOWN, x -> x.rust(3), 7);
        Edge.takenPlainly("27 best", TOWN, x -> x.best(1, -1), 0);
        Edge.takenPlainly("27 safe", Edge.of("s0;t01991"), x -> x.safe(), 1);
        Edge.takenPlainly("27 letGo", Edge.of("s0;t01991"), x -> x.letGo(), 0);
        Edge.takenPlainly("27 two", TOWN, x -> x.two(1, 0), 0);
        Edge.takenPlainly("27 site", TOWN, x -> x.site(1, 0), 0);
        Edge.takenPlainly("27 reading", TOWN, x -> x.reading(0, 0, true), 2);
        Edge.takenPlainly("27 back", TOWN, x -> x.back(1), 1);
        Edge.takenPlainly("27 fits", TOWN, x -> x.fits(-1), 2);
        Edge.takenPlainly("27 lose", TOWN, x -> x.lose(0), 1);
        Edge.takenPlainly("27 tell", TOWN, x -> x.tell(0), 30);
        Edge.takenPlainly("27 strike", TOWN, x -> x.strike(0), 0);
        Edge.takenPlainly("27 trace", Edge.of("s0;t01991"), x -> x.trace(), 0);
        Edge.takenPlainly("27 many", TOWN, x -> x.many(0), 4);
        Edge.taken("27 street", TOWN, x -> x.street(3, 0, 0, 30), 4);
        Edge.taken("27 harm", TOWN, x -> x.harm(0, 2, 0, 4, 1), 0);
        Edge.taken("27 never", Edge.of("s0;t01991", 0), x -> x.never(0, 2, 0, 1), 1);
        Edge.taken("27 fall", Edge.of("s0;t01991", 0), x -> x.fall(0, 2, 0, 1, -1), 0);
        Edge.taken("27 nail", Edge.of("s0;t01991", 0), x -> x.nail(0, 2, 0, 1, 0), 0);
        Edge.taken("27 sheet", TOWN, x -> x.sheet(0, 0, 0), 1);
        Edge.taken("27 put", TOWN, x -> x.put(0, 0, 0), 1);
        Edge.taken("27 cell", TOWN, x -> x.cell(0, 1, 2), 1);
        Edge.taken("27 copy", TOWN, x -> x.copy(0, 0, 0, 0, 1), 1);
        Edge.taken("27 as", TOWN, x -> x.as(0, 0), 1);
    }
}
