/** Promises 23 to 26. */
public final class PartTest {
    private static final String KINDS = "s0;t01121;d01342;c01563";

    public static void main(String[] args) {
        telling();
        striking();
        kinds();
        traces();
        Check.end();
    }

    private static int traced(int... numbers) {
        int trace = 0;
        for (int number : numbers) {
            trace = 31 * trace + number;
        }
        return trace;
    }

    private static void telling() {
        OneNail x = Town.of(KINDS);
        Check.due("23 thing", x.tell(0), 12);
        Check.due("26 thing", x.trace(), traced(1));
        Check.due("23 door", x.tell(1), 134);
        Check.due("26 door", x.trace(), traced(1, 2, 1));
        Check.due("23 coffin", x.tell(2), 212);
        Check.due("26 coffin", x.trace(), traced(1, 2, 1, 3, 2, 1, 1));
        Check.due("23 no thing 3", x.tell(3), OneNail.UNKNOWN);
        Check.due("23 no thing -1", x.tell(-1), OneNail.UNKNOWN);
        Check.due("26 refused leaves nothing", x.trace(), traced(1, 2, 1, 3, 2, 1, 1));
        x.rust(50);
        Check.due("23 rust is nothing to it", x.tell(2), 212);
        Check.due("23 no street", new OneNail().tell(0), OneNail.UNKNOWN);
    }

    private static void striking() {
        OneNail x = Town.of("s0;t01121;d01342;c01563;t01991");
        Check.due("24 thing", x.strike(0), 0);
        Check.due("24 door", x.strike(1), 1);
        Check.due("24 coffin", x.strike(2), 30);
        Check.due("24 thing 3", x.strike(3), 3);
        Check.due("26 all", x.trace(), traced(4, 4, 5, 4));
        Check.due("24 no thing 4", x.strike(4), OneNail.UNKNOWN);
        Check.due("24 no thing -1", x.strike(-1), OneNail.UNKNOWN);
        Check.due("26 refused leaves nothing", x.trace(), traced(4, 4, 5, 4));
        Check.due("24 no street", new OneNail().strike(0), OneNail.UNKNOWN);
    }

    private static void kinds() {
        OneNail x = Town.of(KINDS);
        for (int thing = 0; thing < 3; thing++) {
            for (int kind = 0; kind < 3; kind++) {
                boolean is = kind <= thing;
                Check.due("25 " + thing + " as " + kind, x.as(thing, kind), is ? 1 : -12);
                Check.due("27 " + thing + " as " + kind, x.fault(), is ? 0 : 2);
            }
            Check.due("25 kind 3", x.as(thing, 3), OneNail.OUTSIDE);
            Check.due("27 kind 3", x.fault(), 0);
            Check.due("25 kind -1", x.as(thing, -1), OneNail.OUTSIDE);
        }
        Check.due("25 no thing 3", x.as(3, 3), OneNail.UNKNOWN);
        Check.due("25 no thing -1", x.as(-1, 0), OneNail.UNKNOWN);
        Check.due("26 no body", x.trace(), 0);
    }

    private static void traces() {
        OneNail x = Town.of(KINDS);
        int want = 0;
        for (int k = 0; k < 12; k++) {
            x.strike(2);
            want = 31 * want + 5;
        }
        Check.due("26 wraps", x.trace(), want);
        Town.take(x, "s0;t01121");
        Check.due("26 a new street leaves it", x.trace(), want);
    }
}
