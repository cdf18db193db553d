/** Promises 6 to 9. */
public final class RoundTest {
    // By the round 0, 1 the nail comes at 0 (0), 4 (1), 9 (0), 13 (1) and so on by 9.
    private static final String PAIR = "s2;t21053;t52042";

    public static void main(String[] args) {
        pair();
        onlyOne();
        twiceInARow();
        fallsTogether();
        neverAndAlmost();
        putUpAgain();
        rowsOnSheets();
        refusals();
        Check.end();
    }

    private static OneNail round(String text, int... row) {
        OneNail x = Town.of(text);
        Town.lay(x, 0, 2, row);
        return x;
    }

    private static void nails(OneNail x, int n, int... want) {
        for (int t = 0; t < want.length; t++) {
            Check.due("9 nail at " + t, x.nail(0, 2, 0, n, t), want[t]);
        }
    }

    private static void pair() {
        OneNail x = round(PAIR, 0, 1);
        int no = OneNail.NONE;
        nails(x, 2, 0, no, no, no, 1, 1, no, no, no, 0, no, no, no, 1, 1, no);
        Check.due("9 at 299", x.nail(0, 2, 0, 2, 299), no);
        Check.due("9 at 297", x.nail(0, 2, 0, 2, 297), 0);
        Check.due("6 at 1", x.harm(0, 2, 0, 2, 1), 0);
        Check.due("6 below 6", x.harm(0, 2, 0, 2, 6), 0);
        Check.due("6 below 7", x.harm(0, 2, 0, 2, 7), 3);
        Check.due("6 below 10", x.harm(0, 2, 0, 2, 10), 3);
        Check.due("6 below 11", x.harm(0, 2, 0, 2, 11), 5);
        Check.due("6 below 298", x.harm(0, 2, 0, 2, 298), 163);
        Check.due("6 below 300", x.harm(0, 2, 0, 2, 300), 165);
        Check.due("7 never", x.never(0, 2, 0, 2), 0);
        Check.due("8 how many", x.fall(0, 2, 0, 2, -1), 66);
        Check.due("8 first", x.fall(0, 2, 0, 2, 0), 60);
        Check.due("8 second", x.fall(0, 2, 0, 2, 1), 101);
        Check.due("8 third", x.fall(0, 2, 0, 2, 2), 150);
        Check.due("8 last", x.fall(0, 2, 0, 2, 65), 2981);
        Check.due("8 fewer", x.fall(0, 2, 0, 2, 66), no);
        Check.due("8 far", x.fall(0, 2, 0, 2, Integer.MAX_VALUE), no);
    }

    private static void onlyOne() {
        OneNail x = round(PAIR, 1);
        int no = OneNail.NONE;
        nails(x, 1, no, no, no, 1, 1, 1, 1, 1);
        Check.due("9 at 299", x.nail(0, 2, 0, 1, 299), 1);
        Check.due("8 how many", x.fall(0, 2, 0, 1, -1), 1);
        Check.due("8 the other falls once", x.fall(0, 2, 0, 1, 0), 50);
        Check.due("6 below 5", x.harm(0, 2, 0, 1, 5), 0);
        Check.due("6 below 300", x.harm(0, 2, 0, 1, 300), 3);
        Check.due("7 the other falls", x.never(0, 2, 0, 1), 0);
        OneNail alone = round("s0;t91091", 0);
        Check.due("7 just soon enough", alone.never(0, 2, 0, 1), 1);
        alone.rust(1);
        Check.due("7 a minute late", alone.never(0, 2, 0, 1), 0);
        Check.due("8 falls at 8", alone.fall(0, 2, 0, 1, 0), 80);
        Check.due("8 and never again", alone.fall(0, 2, 0, 1, -1), 1);
    }

    private static void twiceInARow() {
        // Comes to 0 at 0 and 1, to 1 at 5, again to 0 at 10, 11.
        OneNail x = round(PAIR, 0, 0, 1);
        int no = OneNail.NONE;
        nails(x, 3, 0, 0, no, no, no, 1, 1, no, no, no, 0, 0, no);
        Check.due("8 first", x.fall(0, 2, 0, 3, 0), 41);
        Check.due("8 second", x.fall(0, 2, 0, 3, 1), 70);
        Check.due("8 third", x.fall(0, 2, 0, 3, 2), 111);
        Check.due("8 fourth", x.fall(0, 2, 0, 3, 3), 170);
    }

    private static void fallsTogether() {
        OneNail x = round("s0;t01051;t91032;t91034", 0);
        Check.due("8 by things", x.fall(0, 2, 0, 1, 0), 31);
        Check.due("8 then the next", x.fall(0, 2, 0, 1, 1), 32);
        Check.due("8 how many", x.fall(0, 2, 0, 1, -1), 2);
        Check.due("6 below 3", x.harm(0, 2, 0, 1, 3), 0);
        Check.due("6 below 4", x.harm(0, 2, 0, 1, 4), 6);
    }

    private static void neverAndAlmost() {
        OneNail x = round("s0;t01031;t11031", 0, 1);
        Check.due("7 just soon enough for ever", x.never(0, 2, 0, 2), 1);
        Check.due("8 none", x.fall(0, 2, 0, 2, -1), 0);
        OneNail late = round("s0;t01031;t11021", 0, 1);
        Check.due("7 late behind the first time", late.never(0, 2, 0, 2), 0);
        Check.due("8 late at 5", late.fall(0, 2, 0, 2, 0), 51);
        OneNail wrap = round("s0;t01031;t11031", 0, 1, 1);
        Check.due("7 late over the row's end", wrap.never(0, 2, 0, 3), 0);
        OneNail third = round("s0;t01091;t01091;t11031", 0, 1, 2);
        Check.due("7 the last is late the second time", third.never(0, 2, 0, 3), 0);
        Check.due("8 late at 7", third.fall(0, 2, 0, 3, 0), 72);
        OneNail left = round("s0;t01991;t11991", 0, 0, 0, 0, 0, 0, 0, 0);
        Check.due("7 one is left out", left.never(0, 2, 0, 8), 0);
        Check.due("8 at 99", left.fall(0, 2, 0, 8, 0), 991);
    }

    private static void putUpAgain() {
        OneNail x = round("s0;t91011;t91999", 1, 0);
        // Comes to 1 at 9, to 0 at 10 (it fell at 1), and to 0 again at 12, just when it would fall.
        Check.due("8 down until it comes", x.fall(0, 2, 0, 2, 0), 10);
        Check.due("8 once", x.fall(0, 2, 0, 2, -1), 1);
        Check.due("6 once", x.harm(0, 2, 0, 2, 300), 1);
    }

    private static void rowsOnSheets() {
        OneNail x = Town.of(PAIR);
        for (int lane = 0; lane < 3; lane++) {
            Town.lay(x, lane, lane, 7, 1, 0, 1, 7);
            Check.due("6 from 2 on", x.harm(lane, lane, 2, 2, 300), 165);
            Check.due("9 from 1 on", x.nail(lane, lane, 1, 1, 3), 1);
            Check.due("8 from 2 on", x.fall(lane, lane, 2, 2, 0), 60);
            Check.due("7 from 2 on", x.never(lane, lane, 2, 2), 0);
        }
        Check.due("8 of one round", x.fall(0, 0, 2, 2, -1), 66);
        Check.due("8 nothing is left of it", x.fall(0, 0, 1, 1, -1), 1);
        OneNail moved = round(PAIR, 0, 1);
        moved.smithy(5);
        Check.due("9 from the smithy", moved.nail(0, 2, 0, 2, 3), 0);
        Check.due("8 from the smithy", moved.fall(0, 2, 0, 2, 0), 41);
    }

    /** All four calls are refused alike. */
    private static void refused(OneNail x, int sheet, int lane, int i, int n, int want) {
        int fault = want <= -11 ? -10 - want : 0;
        String at = " " + sheet + " " + lane + " " + i + " " + n;
        Check.due("6" + at, x.harm(sheet, lane, i, n, 1), want);
        Check.due("fault() of 6" + at, x.fault(), fault);
        Check.due("7" + at, x.never(sheet, lane, i, n), want);
        Check.due("fault() of 7" + at, x.fault(), fault);
        Check.due("8" + at, x.fall(sheet, lane, i, n, -1), want);
        Check.due("fault() of 8" + at, x.fault(), fault);
        Check.due("9" + at, x.nail(sheet, lane, i, n, 0), want);
        Check.due("fault() of 9" + at, x.fault(), fault);
    }

    private static void refusals() {
        OneNail none = new OneNail();
        Town.lay(none, 0, 0, 0, 1);
        refused(none, 0, 0, 0, 3, -13);
        refused(none, 0, 0, 0, 0, OneNail.STATE);
        refused(none, 0, 0, 0, 2, OneNail.STATE);
        OneNail x = round(PAIR, 0, 1, 0, 1, 0, 1, 0, 1, 0, 2);
        String was = Town.state(x);
        refused(x, 4, 3, -1, -1, OneNail.UNKNOWN);
        refused(x, -1, 2, 0, 1, OneNail.UNKNOWN);
        refused(x, 1, 3, -1, -1, OneNail.OUTSIDE);
        refused(x, 0, -1, -1, -1, OneNail.OUTSIDE);
        refused(x, 0, 1, -1, -1, -12);
        refused(x, 1, 1, -1, -1, -11);
        refused(x, 0, 2, -1, -1, -14);
        refused(x, 0, 2, -1, 0, -13);
        refused(x, 0, 2, 11, 0, -13);
        refused(x, 0, 2, 0, 11, -13);
        refused(x, 0, 2, 2, Integer.MAX_VALUE, -13);
        refused(x, 0, 2, 10, 0, OneNail.OUTSIDE);
        refused(x, 0, 2, 0, 0, OneNail.OUTSIDE);
        refused(x, 0, 2, 0, 9, OneNail.OUTSIDE);
        refused(x, 0, 2, 1, 9, OneNail.OUTSIDE);
        refused(x, 0, 2, 2, 8, OneNail.UNKNOWN);
        x.put(0, 9, -1);
        refused(x, 0, 2, 9, 1, OneNail.UNKNOWN);
        refusedNumbers(x);
        Check.holds("6 to 9 change nothing", was.equals(Town.state(x)));
        Check.due("6 eight are taken", x.harm(0, 2, 0, 8, 7), 3);
    }

    private static void refusedNumbers(OneNail x) {
        Check.due("6 t 0", x.harm(0, 2, 0, 2, 0), OneNail.OUTSIDE);
        Check.due("6 t 301", x.harm(0, 2, 0, 2, 301), OneNail.OUTSIDE);
        Check.due("6 t ahead of faults", x.harm(1, 0, -1, -1, 0), OneNail.OUTSIDE);
        Check.due("6 sheet ahead of t", x.harm(4, 0, 0, 0, 0), OneNail.UNKNOWN);
        Check.due("8 k -2", x.fall(0, 2, 0, 2, -2), OneNail.UNKNOWN);
        Check.due("8 k ahead of the lane", x.fall(0, 3, 0, 2, -2), OneNail.UNKNOWN);
        Check.due("8 k ahead of faults", x.fall(1, 0, 0, 2, Integer.MIN_VALUE), OneNail.UNKNOWN);
        Check.due("8 fault() is 0", x.fault(), 0);
        Check.due("9 t -1", x.nail(0, 2, 0, 2, -1), OneNail.OUTSIDE);
        Check.due("9 t 300", x.nail(0, 2, 0, 2, 300), OneNail.OUTSIDE);
        Check.due("9 t ahead of faults", x.nail(1, 0, -1, -1, 300), OneNail.OUTSIDE);
        Check.due("9 sheet ahead of t", x.nail(-1, 0, 0, 0, 300), OneNail.UNKNOWN);
    }
}
