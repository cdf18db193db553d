/** Promises 10 to 14. */
public final class OrderTest {
    // By 0, 1 the nail comes to 0 at 4, to 1 at 14 (it fell at 5);
    // by 1, 0 it comes to 1 at 5 (just so), to 0 at 15 (it fell at 9).
    private static final String FAR = "s5;t91091;t01052";

    public static void main(String[] args) {
        best();
        safe();
        letGo();
        twoNails();
        site();
        refusals();
        Check.end();
    }

    private static void row(OneNail x, int t, int harm, int... want) {
        Check.due("10 harm till " + t, x.best(t, -1), harm);
        for (int q = 0; q < want.length; q++) {
            Check.due("10 till " + t + ", " + q, x.best(t, q), want[q]);
        }
    }

    private static void best() {
        OneNail x = Town.of(FAR);
        row(x, 1, 0, 0, 1);
        row(x, 5, 0, 0, 1);
        row(x, 6, 0, 1, 0);
        row(x, 9, 0, 1, 0);
        row(x, 10, 1, 1, 0);
        row(x, 11, 1, 1, 0);
        row(x, 12, 2, 0, 1);
        // Each round is 20 minutes: till 300 each thing falls 15 times by either order.
        row(x, 291, 43, 1, 0);
        row(x, 292, 44, 0, 1);
        row(x, 300, 45, 0, 1);
        x.smithy(9);
        row(x, 10, 2, 0, 1);
        row(Town.of("s0;t01091"), 300, 0, 0);
        OneNail six = Town.of("s0;t01991;t01991;t01991;t01991;t01991;t41041");
        row(six, 4, 0, 0, 1, 2, 3, 4, 5);
        row(six, 5, 0, 5, 0, 1, 2, 3, 4);
    }

    private static void safe() {
        Check.due("11 both", Town.of("s0;t01031;t11031").safe(), 2);
        OneNail x = Town.of("s2;t01031;t11031");
        Check.due("11 one", x.safe(), 1);
        x.smithy(3);
        Check.due("11 one more", x.safe(), 0);
        x.smithy(1);
        Check.due("11 again", x.safe(), 2);
        x.rust(1);
        Check.due("11 rusty", x.safe(), 0);
        Check.due("11 three", Town.of("s0;t01991;t01991;t01991").safe(), 6);
        Check.due("11 four", Town.of("s0;t01991;t01991;t01991;t01991").safe(), 24);
        Check.due("11 five", Town.of("s0;t01991;t01991;t01991;t01991;t01991").safe(), 120);
        Check.due("11 six", Town.of("s0;t01991;t01991;t01991;t01991;t01991;t01991").safe(), 720);
        Check.due("11 none", Town.of(FAR).safe(), 0);
        Check.due("11 just so", Town.of("s0;t91091").safe(), 1);
        Check.due("11 late", Town.of("s0;t91081").safe(), 0);
    }

    private static void letGo() {
        OneNail x = Town.of(FAR);
        Check.due("12 the least", x.letGo(), 1);
        x.smithy(6);
        Check.due("12 the other", x.letGo(), 2);
        Check.due("12 none by the second order", Town.of("s2;t01031;t11031").letGo(), 0);
        Check.due("12 none", Town.of("s0;t01031;t11031").letGo(), 0);
        Check.due("12 all", Town.of("s0;t91011").letGo(), 1);
        Check.due("12 all of three", Town.of("s0;t91011;t81011;t71011").letGo(), 7);
        // The fewest come ahead of the least number: 3 would do, too.
        Check.due("12 fewest", Town.of("s0;t91091;t01031;t11031").letGo(), 1);
        Check.due("12 fewest is not least", Town.of("s0;t01031;t11031;t91091").letGo(), 4);
    }

    private static void twoNails() {
        OneNail x = Town.of(FAR);
        Check.due("13 nothing falls by then", x.two(5, 0), 0);
        Check.due("13 one is enough", x.two(9, 0), 0);
        Check.due("13 harm", x.two(9, 1), 0);
        Check.due("13 one each", x.two(300, 0), 1);
        Check.due("13 harm", x.two(300, 1), 0);
        x.smithy(6);
        Check.due("13 one falls", x.two(300, 0), 1);
        Check.due("13 its harm", x.two(300, 1), 2);
        Check.due("13 alone", Town.of("s0;t91015").two(300, 0), 0);
        Check.due("13 alone", Town.of("s0;t91015").two(300, 1), 5);
        OneNail four = Town.of("s5;t91061;t01061;t91061;t01061");
        Check.due("13 two each", four.two(300, 0), 5);
        Check.due("13 two each", four.two(300, 1), 0);
    }

    private static void site() {
        OneNail x = Town.of(FAR);
        Check.due("14 place", x.site(10, 0), 4);
        Check.due("14 harm", x.site(10, 1), 1);
        Check.due("14 first", x.site(5, 0), 0);
        Check.due("14 the smithy stays", x.many(1), 5);
        Check.due("14 at 0", Town.of("s9;t11011").site(300, 0), 0);
        Check.due("14 at 1", Town.of("s9;t21011").site(300, 0), 1);
        Check.due("14 last", Town.of("s0;t91011").site(300, 0), 8);
        x.smithy(0);
        Check.due("14 wherever it is", x.site(10, 0), 4);
        OneNail last = Town.of("s0;t91011;t91021");
        last.rust(1);
        Check.due("14 at 9", last.site(300, 0), 9);
        Check.due("14 at 9", last.site(300, 1), 0);
    }

    private static void refusals() {
        OneNail none = new OneNail();
        Check.due("10 state", none.best(0, 9), OneNail.STATE);
        Check.due("11 state", none.safe(), OneNail.STATE);
        Check.due("12 state", none.letGo(), OneNail.STATE);
        Check.due("13 state", none.two(0, 9), OneNail.STATE);
        Check.due("14 state", none.site(0, 9), OneNail.STATE);
        OneNail x = Town.of(FAR);
        String was = Town.state(x);
        for (int t : new int[] {0, 301, Integer.MIN_VALUE, Integer.MAX_VALUE}) {
            Check.due("10 t " + t, x.best(t, 9), OneNail.OUTSIDE);
            Check.due("13 t " + t, x.two(t, 0), OneNail.OUTSIDE);
            Check.due("14 t " + t, x.site(t, 0), OneNail.OUTSIDE);
        }
        for (int what : new int[] {-2, -1, 2, Integer.MAX_VALUE}) {
            Check.due("13 what " + what, x.two(300, what), OneNail.OUTSIDE);
            Check.due("14 what " + what, x.site(300, what), OneNail.OUTSIDE);
        }
        Check.due("10 q 2", x.best(300, 2), OneNail.UNKNOWN);
        Check.due("10 q -2", x.best(300, -2), OneNail.UNKNOWN);
        Check.holds("10 to 14 change nothing", was.equals(Town.state(x)));
    }
}
