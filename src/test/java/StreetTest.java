/** Promises 1 to 5 and 28. */
public final class StreetTest {
    private static final String FOUR = "s4;t22303;d63185;c11252;t93404";
    private static final String SIX = "s0;t01101;t11101;t21101;t31101;t41101;t51101";

    public static void main(String[] args) {
        newObject();
        takesTexts();
        takesLanesAndOffsets();
        tellsFirstFaults();
        refusesStreets();
        makesAllAnew();
        tellsThings();
        movesSmithy();
        rusts();
        counts();
        Check.end();
    }

    private static void newObject() {
        OneNail x = new OneNail();
        for (int k = 0; k < 4; k++) {
            Check.due("1 many " + k, x.many(k), 0);
            Check.due("1 sheet has nothing " + k, x.lose(k), 0);
        }
        Check.due("1 no thing", x.ofThing(0, 0), OneNail.UNKNOWN);
        Check.due("1 trace", x.trace(), 0);
        Check.due("1 fault", x.fault(), 0);
        Check.due("1 no street", x.safe(), OneNail.STATE);
    }

    private static void takesTexts() {
        Check.due("2 one", Town.of("s0;t01011").many(0), 1);
        OneNail x = Town.of("s9;c99999");
        Check.due("2 smithy", x.many(1), 9);
        Check.due("2 kind", x.ofThing(0, 0), 2);
        Check.due("2 place", x.ofThing(0, 1), 9);
        Check.due("2 in", x.ofThing(0, 2), 9);
        Check.due("2 hold", x.ofThing(0, 3), 99);
        Check.due("2 harm", x.ofThing(0, 4), 9);
        Check.due("2 six", Town.of(SIX).many(0), 6);
        Check.due("2 01 is a hold", Town.of("s0;t01011").ofThing(0, 3), 1);
        Check.due("2 10 is a hold", Town.of("s0;t01101").ofThing(0, 3), 10);
    }

    private static void takesLanesAndOffsets() {
        for (int lane = 0; lane < 3; lane++) {
            OneNail x = new OneNail();
            int[] codes = Town.codes("xx" + FOUR + "x");
            Town.lay(x, 1, lane, codes);
            Check.due("2 lane " + lane, x.street(1, lane, 2, 30), 4);
            Check.due("2 the place is the text's", x.street(1, lane, 2, 31), -130);
            Check.due("2 no s", x.street(1, lane, 1, 30), -100);
        }
        OneNail cut = new OneNail();
        int[] wide = Town.codes("s0;t01011");
        wide[0] += 256;
        Town.lay(cut, 0, 0, wide);
        Check.due("2 a byte is cut", cut.street(0, 0, 0, 9), 1);
        Town.lay(cut, 0, 1, wide);
        Check.due("2 a short keeps 256", cut.street(0, 1, 0, 9), -100);
        wide[0] += 65280;
        Town.lay(cut, 0, 1, wide);
        Check.due("2 a short is cut", cut.street(0, 1, 0, 9), 1);
        Town.lay(cut, 0, 2, wide);
        Check.due("2 an int is not cut", cut.street(0, 2, 0, 9), -100);
    }

    private static void fault(String text, int place) {
        OneNail x = Town.of(FOUR);
        x.rust(7);
        x.reading(1, 20, true);
        x.tell(2);
        String was = Town.state(x);
        Check.due("2 " + text, Town.take(x, text), -100 - place);
        Check.due("2 fault() after " + text, x.fault(), 0);
        Check.holds("2 nothing is changed by " + text, was.equals(Town.state(x)));
    }

    private static void tellsFirstFaults() {
        for (int n = 0; n < FOUR.length(); n++) {
            if (n < 9 || (n - 2) % 7 != 0) {
                fault(FOUR.substring(0, n), n);
            }
        }
        for (int p = 0; p < FOUR.length(); p++) {
            fault(FOUR.substring(0, p) + "x" + FOUR.substring(p + 1), p);
            fault(FOUR.substring(0, p) + "/", p);
            fault(FOUR.substring(0, p) + ":" + FOUR.substring(p + 1), p);
        }
        fault("s0;t00011", 5);
        fault("s0;t01010", 8);
        fault("s0;t01001", 6);
        fault("s0;t0100", 6);
        fault("s0;t010", 7);
        fault("s0;t010x1", 7);
        fault("s0;t01991;t01001", 13);
        fault("s0;t01101;t01110", 15);
        fault(SIX + ";", 44);
        fault(SIX + ";t01101", 44);
        fault(SIX + "x", 44);
        fault("S0;t01011", 0);
        fault("s0,t01011", 2);
        fault("s0;T01011", 3);
        fault("s0;t01011 ", 9);
        fault("s0;t01011s", 9);
        fault("s0;;", 3);
    }

    private static void refuse(OneNail x, String call, int got, int want, int fault) {
        Check.due(call, got, want);
        Check.due("fault() after " + call, x.fault(), fault);
    }

    private static void refusesStreets() {
        OneNail x = Town.of(FOUR);
        Town.lay(x, 0, 1, Town.codes("s0;t01011"));
        String was = Town.state(x);
        x.put(0, 99, 0);
        refuse(x, "2 sheet 4", x.street(4, 9, 0, 9), OneNail.UNKNOWN, 0);
        refuse(x, "2 sheet -1", x.street(-1, 1, 0, 9), OneNail.UNKNOWN, 0);
        x.put(0, 99, 0);
        refuse(x, "2 lane 3", x.street(0, 3, -1, -1), OneNail.OUTSIDE, 0);
        refuse(x, "2 lane -1 of nothing", x.street(1, -1, 0, 0), OneNail.OUTSIDE, 0);
        refuse(x, "2 cast", x.street(0, 0, -1, -1), -12, 2);
        refuse(x, "2 cast up", x.street(0, 2, 0, 9), -12, 2);
        refuse(x, "2 null", x.street(1, 0, -1, -1), -11, 1);
        refuse(x, "2 null of another lane", x.street(2, 2, 0, 0), -11, 1);
        refuse(x, "2 size", x.street(0, 1, -1, -1), -14, 4);
        refuse(x, "2 size least", x.street(0, 1, 0, Integer.MIN_VALUE), -14, 4);
        refuse(x, "2 index -1", x.street(0, 1, -1, 5), -13, 3);
        refuse(x, "2 index -1 of none", x.street(0, 1, -1, 0), -13, 3);
        refuse(x, "2 index behind", x.street(0, 1, 0, 10), -13, 3);
        refuse(x, "2 index 1 behind", x.street(0, 1, 1, 9), -13, 3);
        refuse(x, "2 index far", x.street(0, 1, 10, 0), -13, 3);
        refuse(x, "2 index wraps", x.street(0, 1, 5, Integer.MAX_VALUE), -13, 3);
        refuse(x, "2 index wraps too", x.street(0, 1, Integer.MAX_VALUE, Integer.MAX_VALUE), -13, 3);
        refuse(x, "2 none at the end", x.street(0, 1, 9, 0), -100, 0);
        Check.holds("2 refusals change nothing", was.equals(Town.state(x)));
        refuse(x, "2 taken", x.street(0, 1, 0, 9), 1, 0);
    }

    private static void makesAllAnew() {
        OneNail x = Town.of(FOUR);
        x.rust(20);
        x.smithy(8);
        x.reading(0, 1, true);
        Check.due("2 again", Town.take(x, "s3;d71102"), 1);
        Check.due("2 things anew", x.many(0), 1);
        Check.due("2 smithy anew", x.many(1), 3);
        Check.due("2 rust anew", x.many(2), 0);
        Check.due("2 readings anew", x.many(3), 0);
        Check.due("2 holds anew", x.ofThing(0, 5), 15);
        Check.due("2 no thing 1", x.ofThing(1, 0), OneNail.UNKNOWN);
        Check.due("2 from few to many", Town.take(x, SIX), 6);
        Check.due("2 the sixth", x.ofThing(5, 1), 5);
    }

    private static void tellsThings() {
        OneNail x = Town.of(FOUR);
        int[][] want = {{0, 2, 2, 30, 3, 30}, {1, 6, 3, 18, 5, 27}, {2, 1, 1, 25, 2, 47}, {0, 9, 3, 40, 4, 40}};
        for (int k = 0; k < 4; k++) {
            for (int what = 0; what < 6; what++) {
                Check.due("3 of " + k + " " + what, x.ofThing(k, what), want[k][what]);
            }
            Check.due("3 what 6", x.ofThing(k, 6), OneNail.OUTSIDE);
            Check.due("3 what -1", x.ofThing(k, -1), OneNail.OUTSIDE);
        }
        Check.due("3 thing 4", x.ofThing(4, 6), OneNail.UNKNOWN);
        Check.due("3 thing -1", x.ofThing(-1, 0), OneNail.UNKNOWN);
        Check.due("3 thing far", x.ofThing(Integer.MAX_VALUE, 0), OneNail.UNKNOWN);
    }

    private static void movesSmithy() {
        OneNail none = new OneNail();
        Check.due("4 no street", none.smithy(9), OneNail.STATE);
        Check.due("4 outside first", none.smithy(10), OneNail.OUTSIDE);
        Check.due("4 outside first", none.smithy(-1), OneNail.OUTSIDE);
        Check.due("4 still 0", none.many(1), 0);
        OneNail x = Town.of(FOUR);
        Check.due("4 to 9", x.smithy(9), 4);
        Check.due("4 outside", x.smithy(10), OneNail.OUTSIDE);
        Check.due("4 is 9", x.many(1), 9);
        Check.due("4 to 0", x.smithy(0), 9);
        Check.due("4 is 0", x.many(1), 0);
    }

    private static void rusts() {
        OneNail none = new OneNail();
        Check.due("5 no street", none.rust(50), OneNail.STATE);
        Check.due("5 outside first", none.rust(51), OneNail.OUTSIDE);
        Check.due("5 outside first", none.rust(-1), OneNail.OUTSIDE);
        OneNail x = Town.of("s0;t01111;d01111;c01111;t01121");
        Check.due("5 to 10", x.rust(10), 0);
        holds(x, 1, 1, 11, 2);
        Check.due("5 to 11", x.rust(11), 10);
        holds(x, 1, 1, 11, 1);
        Check.due("5 outside", x.rust(51), OneNail.OUTSIDE);
        Check.due("5 is 11", x.many(2), 11);
        Check.due("5 to 50", x.rust(50), 11);
        holds(x, 1, 1, 11, 1);
        Check.due("5 to 8", x.rust(8), 50);
        holds(x, 3, 4, 14, 4);
        Check.due("5 hold is as told", x.ofThing(0, 3), 11);
        Check.due("5 to 0", x.rust(0), 8);
        holds(x, 11, 16, 26, 12);
    }

    private static void holds(OneNail x, int... want) {
        for (int k = 0; k < want.length; k++) {
            Check.due("5 holds " + k + " by rust " + x.many(2), x.ofThing(k, 5), want[k]);
        }
    }

    private static void counts() {
        OneNail x = Town.of(FOUR);
        x.rust(17);
        x.reading(0, 0, true);
        x.reading(0, 0, true);
        Check.due("28 things", x.many(0), 4);
        Check.due("28 smithy", x.many(1), 4);
        Check.due("28 rust", x.many(2), 17);
        Check.due("28 readings", x.many(3), 2);
        Check.due("28 what 4", x.many(4), OneNail.OUTSIDE);
        Check.due("28 what -1", x.many(-1), OneNail.OUTSIDE);
        Check.due("28 what far", x.many(Integer.MIN_VALUE), OneNail.OUTSIDE);
    }
}
