/** Promises 18 to 22 and 27. */
public final class SheetTest {
    public static void main(String[] args) {
        makes();
        loses();
        puts();
        tells();
        copies();
        copiesOver();
        refusesCopies();
        faults();
        Check.end();
    }

    private static void due(OneNail x, String call, long got, long want, int fault) {
        Check.due(call, got, want);
        Check.due("27 fault() after " + call, x.fault(), fault);
    }

    private static void makes() {
        OneNail x = new OneNail();
        due(x, "18 none", x.sheet(0, 0, 0), 1, 0);
        due(x, "18 sixty", x.sheet(3, 2, 60), 1, 0);
        due(x, "18 the last is 0", x.cell(3, 59, 2), 0, 0);
        due(x, "18 no more", x.cell(3, 60, 2), OneNail.LOST, 3);
        x.put(3, 59, 5);
        due(x, "18 sheet 4", x.sheet(4, 3, -1), OneNail.UNKNOWN, 0);
        due(x, "18 sheet -1", x.sheet(-1, 0, 1), OneNail.UNKNOWN, 0);
        due(x, "18 lane 3", x.sheet(3, 3, -1), OneNail.OUTSIDE, 0);
        due(x, "18 lane -1", x.sheet(3, -1, 1), OneNail.OUTSIDE, 0);
        due(x, "18 n 61", x.sheet(3, 0, 61), OneNail.OUTSIDE, 0);
        due(x, "18 n far", x.sheet(3, 0, Integer.MAX_VALUE), OneNail.OUTSIDE, 0);
        due(x, "18 n -1", x.sheet(3, 0, -1), -14, 4);
        due(x, "18 n least", x.sheet(3, 0, Integer.MIN_VALUE), -14, 4);
        due(x, "18 as it was", x.cell(3, 59, 2), 5, 0);
        due(x, "18 anew", x.sheet(3, 2, 60), 1, 0);
        due(x, "18 0 again", x.cell(3, 59, 2), 0, 0);
        x.put(3, 1, 7);
        x.sheet(3, 2, 1);
        x.sheet(3, 2, 2);
        due(x, "18 longer again", x.cell(3, 1, 2), 0, 0);
        x.put(3, 0, 7);
        x.sheet(3, 2, 1);
        due(x, "18 the first is 0", x.cell(3, 0, 2), 0, 0);
        x.sheet(3, 2, 0);
        due(x, "18 none has none", x.cell(3, 0, 2), OneNail.LOST, 3);
        due(x, "18 none has none", x.put(3, 0, 1), -13, 3);
        due(x, "18 a row after a fault", x.sheet(3, 0, 1), 1, 0);
        x.put(3, 1, 1);
        due(x, "18 refused after a fault", x.sheet(3, 0, 61), OneNail.OUTSIDE, 0);
    }

    private static void loses() {
        OneNail x = new OneNail();
        Check.due("19 nothing", x.lose(2), 0);
        x.sheet(2, 1, 0);
        Check.due("19 a row of none", x.lose(2), 1);
        Check.due("19 nothing again", x.lose(2), 0);
        Check.due("19 sheet 4", x.lose(4), OneNail.UNKNOWN);
        Check.due("19 sheet -1", x.lose(-1), OneNail.UNKNOWN);
        x.sheet(2, 1, 1);
        x.put(2, 5, 5);
        Check.due("19 one more", x.lose(2), 1);
        Check.due("27 lose names none", x.fault(), 3);
        due(x, "19 it is gone", x.cell(2, 0, 1), OneNail.LOST, 1);
    }

    private static void puts() {
        OneNail x = new OneNail();
        due(x, "20 nothing", x.put(0, -1, 1), -11, 1);
        due(x, "20 sheet 4", x.put(4, -1, 1), OneNail.UNKNOWN, 0);
        due(x, "20 sheet -1", x.put(-1, 0, 1), OneNail.UNKNOWN, 0);
        x.sheet(0, 0, 2);
        due(x, "20 index 2", x.put(0, 2, 1), -13, 3);
        due(x, "20 index -1", x.put(0, -1, 1), -13, 3);
        due(x, "20 index far", x.put(0, Integer.MAX_VALUE, 1), -13, 3);
        due(x, "20 put", x.put(0, 1, 200), 1, 0);
        due(x, "20 a byte", x.cell(0, 1, 0), -56, 0);
        due(x, "20 the other", x.cell(0, 0, 0), 0, 0);
        x.sheet(1, 1, 1);
        x.put(1, 0, 40000);
        due(x, "20 a short", x.cell(1, 0, 1), -25536, 0);
        x.put(1, 0, 200);
        due(x, "20 a short", x.cell(1, 0, 1), 200, 0);
        x.sheet(2, 2, 1);
        x.put(2, 0, Integer.MIN_VALUE);
        due(x, "20 an int", x.cell(2, 0, 2), Integer.MIN_VALUE, 0);
        x.put(0, 0, Integer.MIN_VALUE);
        due(x, "20 cut to nothing", x.cell(0, 0, 0), 0, 0);
        x.put(0, 0, Integer.MAX_VALUE);
        due(x, "20 cut to -1", x.cell(0, 0, 0), -1, 0);
    }

    private static void tells() {
        OneNail x = new OneNail();
        long lost = OneNail.LOST;
        Check.due("21 lost", lost, Long.MIN_VALUE);
        due(x, "21 nothing is no cast", x.cell(0, -1, 2), lost, 1);
        due(x, "21 sheet 4", x.cell(4, 0, 3), lost, 0);
        due(x, "21 lane 3 of nothing", x.cell(0, 0, 3), lost, 0);
        x.sheet(0, 1, 3);
        x.put(0, 2, -7);
        due(x, "21 cast ahead", x.cell(0, 3, 2), lost, 2);
        due(x, "21 cast", x.cell(0, 0, 0), lost, 2);
        due(x, "21 lane ahead", x.cell(0, 3, -1), lost, 0);
        due(x, "21 index", x.cell(0, 3, 1), lost, 3);
        due(x, "21 index -1", x.cell(0, -1, 1), lost, 3);
        due(x, "21 cell", x.cell(0, 2, 1), -7, 0);
    }

    private static void row(OneNail x, int k, int lane, int... want) {
        for (int i = 0; i < want.length; i++) {
            Check.due("22 cell " + i + " of " + k, x.cell(k, i, lane), want[i]);
        }
    }

    private static void copies() {
        OneNail x = new OneNail();
        Town.lay(x, 0, 1, 1, 2, 3, 4, 5);
        Town.lay(x, 1, 1, 9, 9, 9);
        due(x, "22 two", x.copy(0, 3, 1, 1, 2), 2, 0);
        row(x, 1, 1, 9, 4, 5);
        row(x, 0, 1, 1, 2, 3, 4, 5);
        due(x, "22 none at the ends", x.copy(0, 5, 1, 3, 0), 0, 0);
        due(x, "22 all", x.copy(1, 0, 0, 0, 3), 3, 0);
        row(x, 0, 1, 9, 4, 5, 4, 5);
    }

    private static void copiesOver() {
        OneNail x = new OneNail();
        Town.lay(x, 2, 2, 1, 2, 3, 4, 5, 6);
        due(x, "22 up", x.copy(2, 0, 2, 2, 4), 4, 0);
        row(x, 2, 2, 1, 2, 1, 2, 3, 4);
        Town.lay(x, 2, 2, 1, 2, 3, 4, 5, 6);
        due(x, "22 down", x.copy(2, 1, 2, 0, 5), 5, 0);
        row(x, 2, 2, 2, 3, 4, 5, 6, 6);
        due(x, "22 upon itself", x.copy(2, 0, 2, 0, 6), 6, 0);
        row(x, 2, 2, 2, 3, 4, 5, 6, 6);
    }

    private static void refusesCopies() {
        OneNail x = new OneNail();
        Town.lay(x, 0, 1, 1, 2, 3);
        Town.lay(x, 1, 2, 4, 5, 6, 7);
        Town.lay(x, 3, 1, 8, 8, 8, 8);
        due(x, "22 sheet 4", x.copy(4, 0, 2, 0, 0), OneNail.UNKNOWN, 0);
        due(x, "22 other 4", x.copy(2, 0, 4, 0, 0), OneNail.UNKNOWN, 0);
        due(x, "22 other -1", x.copy(0, -1, -1, 0, 0), OneNail.UNKNOWN, 0);
        due(x, "22 nothing", x.copy(2, -1, 1, -1, -1), -11, 1);
        due(x, "22 other nothing", x.copy(0, -1, 2, -1, -1), -11, 1);
        due(x, "22 both nothing", x.copy(2, 0, 2, 0, 0), -11, 1);
        due(x, "22 cast", x.copy(0, -1, 1, -1, -1), -12, 2);
        due(x, "22 cast of none", x.copy(0, 0, 1, 0, 0), -12, 2);
        due(x, "22 i -1", x.copy(0, -1, 3, 0, 0), -13, 3);
        due(x, "22 j -1", x.copy(0, 0, 3, -1, 0), -13, 3);
        due(x, "22 n -1", x.copy(0, 1, 3, 1, -1), -13, 3);
        due(x, "22 i beyond", x.copy(0, 4, 3, 0, 0), -13, 3);
        due(x, "22 j beyond", x.copy(0, 0, 3, 5, 0), -13, 3);
        due(x, "22 from beyond", x.copy(0, 1, 3, 0, 3), -13, 3);
        due(x, "22 to beyond", x.copy(0, 0, 3, 2, 3), -13, 3);
        due(x, "22 wraps", x.copy(0, 1, 3, 1, Integer.MAX_VALUE), -13, 3);
        due(x, "22 refused after a fault", x.copy(0, 0, 9, 0, 0), OneNail.UNKNOWN, 0);
        x.copy(2, 0, 2, 0, 0);
        due(x, "22 copied after a fault", x.copy(0, 0, 3, 4, 0), 0, 0);
        row(x, 0, 1, 1, 2, 3);
        row(x, 1, 2, 4, 5, 6, 7);
        row(x, 3, 1, 8, 8, 8, 8);
    }

    /** Calls that name no fault leave what fault() tells. */
    private static void faults() {
        OneNail x = Town.of("s0;t01101;d11101");
        Check.due("27 put to a wrong cell", x.put(0, 0, 0), -11);
        x.ofThing(9, 9);
        x.smithy(3);
        x.smithy(10);
        x.rust(51);
        x.rust(3);
        x.best(1, -1);
        x.best(0, 0);
        x.safe();
        x.letGo();
        x.two(300, 2);
        x.site(1, 0);
        x.reading(9, 0, true);
        x.back(9);
        x.fits(-1);
        x.lose(0);
        x.lose(9);
        x.tell(0);
        x.strike(9);
        x.trace();
        x.many(9);
        Check.due("27 still null", x.fault(), 1);
        Check.due("27 and again", x.fault(), 1);
        due(x, "25 cast", x.as(0, 2), -12, 2);
        due(x, "25 refused", x.as(9, 2), OneNail.UNKNOWN, 0);
        due(x, "20 null", x.put(0, 0, 0), -11, 1);
        due(x, "25 none", x.as(1, 1), 1, 0);
    }
}
