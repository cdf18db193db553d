/** Promises 15 to 17. */
public final class ReadingTest {
    // By 0, 1: 0 is up till 14 and from 24 on, 1 till 5 and from 14 on till 20.
    // By 1, 0: 0 is up till 9 and from 15 on till 25, 1 till 11 and from 25 on.
    private static final String FAR = "s5;t91091;t01052";

    public static void main(String[] args) {
        fitsOne();
        fitsMany();
        takesBack();
        fills();
        refusals();
        Check.end();
    }

    /** By how many orders, and by which first, one reading is so. */
    private static void one(int thing, int minute, boolean up, int want, int first) {
        OneNail x = Town.of(FAR);
        String at = " " + thing + " at " + minute + " " + up;
        Check.due("15" + at, x.reading(thing, minute, up), 0);
        Check.due("17 how many" + at, x.fits(-1), want);
        Check.due("17 first" + at, x.fits(0), first);
        Check.due("17 second" + at, x.fits(1), first == OneNail.NONE ? first : 1 - first);
    }

    private static void fitsOne() {
        one(0, 0, true, 2, 0);
        one(0, 0, false, 0, OneNail.NONE);
        one(1, 4, true, 2, 0);
        one(1, 5, true, 1, 1);
        one(1, 5, false, 1, 0);
        one(0, 8, true, 2, 0);
        one(0, 9, false, 1, 1);
        one(0, 13, true, 1, 0);
        one(0, 14, true, 0, OneNail.NONE);
        one(0, 14, false, 2, 0);
        one(0, 15, true, 1, 1);
        one(0, 24, true, 2, 0);
        one(0, 25, false, 1, 1);
        one(1, 11, false, 2, 0);
        one(1, 10, true, 1, 1);
        one(1, 14, true, 1, 0);
        one(1, 19, true, 1, 0);
        one(1, 20, false, 2, 0);
        // 284 and 294 are 4 and 14 behind fourteen rounds of 20.
        one(0, 284, true, 2, 0);
        one(0, 294, false, 2, 0);
        one(0, 293, true, 1, 0);
        one(1, 299, true, 1, 0);
    }

    private static void fitsMany() {
        OneNail x = Town.of(FAR);
        Check.due("17 no readings", x.fits(-1), 2);
        x.reading(0, 0, true);
        Check.due("15 second", x.reading(1, 5, true), 1);
        Check.due("17 one", x.fits(-1), 1);
        Check.due("15 third", x.reading(0, 13, true), 2);
        Check.due("17 none", x.fits(-1), 0);
        Check.due("17 none", x.fits(1), OneNail.NONE);
        OneNail moved = Town.of(FAR);
        moved.reading(1, 5, true);
        moved.smithy(9);
        Check.due("17 by where the smithy is", moved.fits(-1), 0);
        moved.smithy(5);
        moved.rust(1);
        Check.due("17 by how rusty it is", moved.fits(-1), 1);
        moved.rust(0);
        Check.due("17 as it was", moved.fits(0), 1);
        OneNail alone = Town.of("s0;t01011");
        alone.reading(0, 50, true);
        Check.due("17 the nail stays in it", alone.fits(-1), 1);
        Check.due("17 of six", Town.of("s0;t01991;t01991;t01991;t01991;t01991;t01991").fits(-1), 720);
    }

    private static void takesBack() {
        OneNail x = Town.of(FAR);
        x.reading(1, 5, true);
        x.reading(1, 5, false);
        x.reading(0, 0, false);
        Check.due("16 none", x.back(0), 3);
        Check.due("16 too many", x.back(4), OneNail.OUTSIDE);
        Check.due("16 below 0", x.back(-1), OneNail.OUTSIDE);
        Check.due("16 far", x.back(Integer.MIN_VALUE), OneNail.OUTSIDE);
        Check.due("16 none is gone", x.many(3), 3);
        Check.due("16 two", x.back(2), 1);
        Check.due("16 the first is left", x.fits(0), 1);
        Check.due("15 numbered again", x.reading(1, 5, false), 1);
        Check.due("16 all", x.back(2), 0);
        Check.due("16 none are left", x.back(1), OneNail.OUTSIDE);
        Check.due("17 all orders", x.fits(-1), 2);
        Check.due("16 no street", new OneNail().back(0), 0);
        Check.due("16 no street", new OneNail().back(1), OneNail.OUTSIDE);
    }

    private static void fills() {
        OneNail x = Town.of(FAR);
        for (int k = 0; k < 8; k++) {
            Check.due("15 " + k, x.reading(k & 1, 0, true), k);
        }
        Check.due("15 full", x.reading(0, 0, false), OneNail.FULL);
        Check.due("15 outside ahead", x.reading(0, 300, true), OneNail.OUTSIDE);
        Check.due("15 unknown ahead", x.reading(2, 300, true), OneNail.UNKNOWN);
        Check.due("15 eight", x.many(3), 8);
        Check.due("17 as it was", x.fits(-1), 2);
        Check.due("16 one", x.back(1), 7);
        Check.due("15 again", x.reading(0, 0, false), 7);
        Check.due("17 none", x.fits(-1), 0);
        Check.due("16 all", x.back(8), 0);
    }

    private static void refusals() {
        OneNail none = new OneNail();
        Check.due("15 no thing", none.reading(0, -1, true), OneNail.UNKNOWN);
        Check.due("17 no street", none.fits(9), OneNail.STATE);
        OneNail x = Town.of(FAR);
        Check.due("15 thing 2", x.reading(2, 0, true), OneNail.UNKNOWN);
        Check.due("15 thing -1", x.reading(-1, 300, true), OneNail.UNKNOWN);
        Check.due("15 minute 300", x.reading(0, 300, true), OneNail.OUTSIDE);
        Check.due("15 minute -1", x.reading(0, -1, true), OneNail.OUTSIDE);
        Check.due("15 minute 299", x.reading(0, 299, false), 0);
        Check.due("17 q 2", x.fits(2), OneNail.UNKNOWN);
        Check.due("17 q -2", x.fits(-2), OneNail.UNKNOWN);
        x.reading(0, 0, false);
        Check.due("17 q 2 of none", x.fits(2), OneNail.UNKNOWN);
    }
}
