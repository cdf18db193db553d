import java.util.function.Supplier;

/** "==== 3" and promises 10 to 14: each boundary that a sentence there names, on both sides. */
public final class EdgeOrderTest {
    private static final int UNKNOWN = OneNail.UNKNOWN;
    private static final int OUTSIDE = OneNail.OUTSIDE;
    private static final int STATE = OneNail.STATE;
    private static final int[] NO_SPANS = {0, 301, -1, Integer.MIN_VALUE, Integer.MAX_VALUE};
    private static final Supplier<OneNail> TOWN = Edge.TOWN;
    private static final Supplier<OneNail> ROWS = Edge.ROWS;
    private static final String[] EASY = {
        "s0;t01991", "s0;t01991;t01991", "s0;t01991;t01991;t01991", "s0;t01991;t01991;t01991;t01991",
        "s0;t01991;t01991;t01991;t01991;t01991", "s0;t01991;t01991;t01991;t01991;t01991;t01991"};

    public static void main(String[] args) {
        ordersOfOneToSix();
        bestsMinutes();
        bestsPlacesOfTheRow();
        theFirstAsARow();
        theLeastHarm();
        bestBelowT();
        justThenDoesNoHarm();
        bestTillTheLastMinutes();
        safesEnds();
        letGosEnds();
        theFewestToLetGo();
        theLeastToLetGo();
        twosNumbers();
        twoOfSeveralTheLeast();
        aNailWithNoThings();
        theseDoTheLeastHarm();
        sitesNumbers();
        siteOfSeveralTheLeast();
        sitesEnds();
        withoutAStreet();
        askingChangesNothing();
        Check.end();
    }

    private static void row(String what, OneNail x, int t, int harm, int... want) {
        Check.due(what + ": HARM", x.best(t, -1), harm);
        for (int q = 0; q < want.length; q++) {
            Check.due(what + ": row " + q, x.best(t, q), want[q]);
        }
    }

    /** "ORDERS: ROUNDS of all THINGS, each once." */
    private static void ordersOfOneToSix() {
        int[] orders = {1, 2, 6, 24, 120, 720};
        for (int n = 1; n <= 6; n++) {
            OneNail x = Town.of(EASY[n - 1]);
            Check.due("11 of " + n, x.safe(), orders[n - 1]);
            Check.due("17 of " + n, x.fits(-1), orders[n - 1]);
        }
    }

    private static void bestsMinutes() {
        Supplier<OneNail> pair = Edge.of("s0;t01991;t91081");
        Edge.takenPlainly("10 t 1", pair, x -> x.best(1, -1), 0);
        Edge.takenPlainly("10 t 300", pair, x -> x.best(300, -1), 16);
        for (int t : NO_SPANS) {
            Edge.refusedPlainly("10 t " + t, TOWN, x -> x.best(t, -1), OUTSIDE);
        }
    }

    /** "UNKNOWN: q is not -1 .. THINGS less 1" */
    private static void bestsPlacesOfTheRow() {
        for (int n = 1; n <= 6; n++) {
            int things = n;
            Supplier<OneNail> easy = Edge.of(EASY[n - 1]);
            Edge.takenPlainly("10 q -1 of " + n, easy, x -> x.best(300, -1), 0);
            Edge.takenPlainly("10 q 0 of " + n, easy, x -> x.best(300, 0), 0);
            Edge.takenPlainly("10 the last q of " + n, easy, x -> x.best(300, things - 1), n - 1);
            Edge.refusedPlainly("10 q behind of " + n, easy, x -> x.best(300, things), UNKNOWN);
        }
        for (int q : new int[] {-2, 4, Integer.MIN_VALUE, Integer.MAX_VALUE}) {
            Edge.refusedPlainly("10 q " + q, TOWN, x -> x.best(300, q), UNKNOWN);
        }
    }

    /** "of several the first as a row" */
    private static void theFirstAsARow() {
        row("10 of all", Town.of(EASY[5]), 300, 0, 0, 1, 2, 3, 4, 5);
        // 1 is late (at 4) by all rows that do not begin with it.
        OneNail x = Town.of("s0;t01991;t41041;t01991");
        row("10 of all, till 4", x, 4, 0, 0, 1, 2);
        row("10 of two, till 5", x, 5, 0, 1, 0, 2);
        OneNail last = Town.of("s0;t01991;t01991;t01991;t01991;t01991;t41041");
        row("10 of all, till 4", last, 4, 0, 0, 1, 2, 3, 4, 5);
        row("10 of 120, till 5", last, 5, 0, 5, 0, 1, 2, 3, 4);
        // The first comes a minute late to the second: both rows do a HARM of 1.
        row("10 of two that are alike", Town.of("s0;t41041;t41041"), 5, 1, 0, 1);
    }

    /** "the ORDER of the least HARM" */
    private static void theLeastHarm() {
        row("10 the second does more", Town.of("s0;t41041;t41042"), 5, 1, 1, 0);
        row("10 the first does more", Town.of("s0;t41042;t41041"), 5, 1, 0, 1);
        row("10 nothing by then", Town.of("s0;t41041;t41042"), 4, 0, 0, 1);
        row("10 the last row of all", Town.of("s0;t41061;t41052;t41043"), 7, 0, 2, 1, 0);
        row("10 one is late by any row", Town.of("s0;t41051;t41042;t41033"), 6, 3, 1, 0, 2);
    }

    /** By 0, 1 the second falls at 8 and at 19, by 1, 0 at 8 and at 18. */
    private static void bestBelowT() {
        OneNail x = Town.of("s0;t01991;t91081");
        row("10 till 8", x, 8, 0, 0, 1);
        row("10 till 9", x, 9, 1, 0, 1);
        row("10 till 18", x, 18, 1, 0, 1);
        row("10 till 19", x, 19, 1, 0, 1);
        row("10 till 20", x, 20, 2, 0, 1);
    }

    /** "(just then is soon enough)", at first and ever after. */
    private static void justThenDoesNoHarm() {
        OneNail x = Town.of("s0;t01031;t11031");
        row("10 just then", x, 300, 0, 0, 1);
        two("13 just then", x, 300, 0, 0);
        x.rust(1);
        row("10 a minute late, till 299", x, 299, 148, 0, 1);
        row("10 a minute late, till 300", x, 300, 149, 0, 1);
        two("13 a minute late", x, 300, 1, 0);
    }

    /** BEST till 300 has what falls at 299, not at 300; till 299 not at 299. */
    private static void bestTillTheLastMinutes() {
        OneNail eight = Town.of("s0;t01991;t91081");
        row("10 falls at 299 or 298, till 299", eight, 299, 15, 0, 1);
        row("10 falls at 299 or 298, till 300", eight, 300, 16, 0, 1);
        OneNail nine = Town.of("s0;t01991;t91091");
        row("10 falls at 300 or 299, till 299", nine, 299, 14, 1, 0);
        row("10 falls at 300 or 299, till 300", nine, 300, 15, 0, 1);
    }

    private static void safesEnds() {
        Check.due("11 just then", Town.of("s0;t91091").safe(), 1);
        Check.due("11 a minute late", Town.of("s0;t91081").safe(), 0);
        Check.due("11 just then again", Town.of("s0;t01031;t11031").safe(), 2);
        Check.due("11 one is late again", Town.of("s0;t01021;t11031").safe(), 0);
        Check.due("11 the other is late again", Town.of("s0;t01031;t11021").safe(), 0);
        Check.due("11 one order is late at first", Town.of("s2;t01031;t11031").safe(), 1);
        Check.due("11 720", Town.of("s0;t01051;t01051;t01051;t01051;t01051;t01051").safe(), 720);
        OneNail x = Town.of("s0;t01061;t01061;t01061;t01061;t01061;t01061");
        Check.due("11 a minute to spare", x.safe(), 720);
        Check.due("11 rusty", x.rust(2), 0);
        Check.due("11 a minute late", x.safe(), 0);
    }

    /** "the fewest THINGS ...: as a set ... (if all are let go, it is so)" */
    private static void letGosEnds() {
        String late = ";t91081";
        String soon = ";t91091";
        for (int n = 1; n <= 6; n++) {
            Check.due("12 none of " + n, Town.of(EASY[n - 1]).letGo(), 0);
            Check.due("12 all of " + n, Town.of("s0" + late.repeat(n)).letGo(), (1 << n) - 1);
            Check.due("12 all but one of " + n, Town.of("s0" + soon.repeat(n)).letGo(), (1 << (n - 1)) - 1);
            Check.due("12 all but the first of " + n, Town.of("s0" + soon + late.repeat(n - 1)).letGo(), (1 << n) - 2);
        }
    }

    /** The fewest come ahead of the least. */
    private static void theFewestToLetGo() {
        Check.due("12 the last one", Town.of("s0;t01031;t11031;t91091").letGo(), 4);
        Check.due("12 the sixth", Town.of("s0;t01991;t01991;t01991;t01991;t01991;t91081").letGo(), 32);
        Check.due("12 the first", Town.of("s0;t91081;t01991;t01991;t01991;t01991;t01991").letGo(), 1);
        Check.due("12 the first and the last", Town.of("s0;t91081;t01991;t91081").letGo(), 5);
        OneNail x = Town.of("s0;t01051;t01051;t01051;t01051;t01051;t01051");
        x.rust(1);
        Check.due("12 one of six that are a minute late", x.letGo(), 1);
    }

    /** "of several the least" */
    private static void theLeastToLetGo() {
        Check.due("12 either of two", Town.of("s0;t91091;t91091").letGo(), 1);
        Check.due("12 two of three", Town.of("s0;t91091;t91091;t91091").letGo(), 3);
        Check.due("12 the second or the third", Town.of("s0;t91991;t91091;t91091").letGo(), 2);
        Check.due("12 HARM is nothing to it", Town.of("s0;t91099;t91091").letGo(), 1);
    }

    private static void twosNumbers() {
        Supplier<OneNail> pair = Edge.of("s0;t91091;t91091");
        Edge.takenPlainly("13 t 1, what 0", pair, x -> x.two(1, 0), 0);
        Edge.takenPlainly("13 t 300, what 0", pair, x -> x.two(300, 0), 1);
        Edge.takenPlainly("13 t 1, what 1", pair, x -> x.two(1, 1), 0);
        Edge.takenPlainly("13 t 300, what 1", pair, x -> x.two(300, 1), 0);
        for (int t : NO_SPANS) {
            Edge.refusedPlainly("13 t " + t, TOWN, x -> x.two(t, 0), OUTSIDE);
        }
        for (int what : new int[] {-1, 2, Integer.MIN_VALUE, Integer.MAX_VALUE}) {
            Edge.refusedPlainly("13 what " + what, TOWN, x -> x.two(300, what), OUTSIDE);
        }
    }

    private static void two(String what, OneNail x, int t, int set, int harm) {
        Check.due(what + ": set", x.two(t, 0), set);
        Check.due(what + ": HARM", x.two(t, 1), harm);
    }

    /** "the set by which that is the least together: of several the least" */
    private static void twoOfSeveralTheLeast() {
        OneNail pair = Town.of("s0;t91091;t91091");
        two("13 one nail is enough till 9", pair, 9, 0, 0);
        two("13 one each till 10", pair, 10, 1, 0);
        OneNail three = Town.of("s0;t91091;t91091;t91091");
        two("13 till 9", three, 9, 0, 0);
        two("13 one of three falls", three, 10, 1, 1);
        two("13 three falls of six", Town.of("s0" + ";t91091".repeat(6)), 10, 1, 4);
        two("13 the least of two apart", Town.of("s5;t91061;t01061;t91061;t01061"), 300, 5, 0);
        for (int n = 1; n <= 6; n++) {
            two("13 of " + n + " that never fall", Town.of(EASY[n - 1]), 300, 0, 0);
        }
    }

    /** "(A NAIL with no THINGS does nothing.)" */
    private static void aNailWithNoThings() {
        OneNail alone = Town.of("s0;t91085");
        two("13 alone, till 8", alone, 8, 0, 0);
        two("13 alone, till 9", alone, 9, 0, 5);
        two("13 alone, till 300", alone, 300, 0, 5);
        // Two nails do no better than one where both fall ahead of any nail.
        two("13 both are late", Town.of("s0;t91082;t91083"), 9, 0, 5);
    }

    /** "the ROUND ... by which these do the least HARM": what the other nail goes to is no part of it. */
    private static void theseDoTheLeastHarm() {
        OneNail apart = Town.of("s5;t91049;t01059");
        two("13 each its own", apart, 300, 1, 0);
        Check.due("10 one nail for both", apart.best(300, -1) > 0 ? 1 : 0, 1);
        // Each nail from the SMITHY's PLACE: from 4 the far one is reached a minute late.
        apart.smithy(4);
        two("13 from the SMITHY's PLACE", apart, 300, 1, 9);
        two("13 from the SMITHY's PLACE, till 4", apart, 4, 0, 0);
    }

    private static void sitesNumbers() {
        Supplier<OneNail> far = Edge.of("s0;t91011");
        Edge.takenPlainly("14 t 1, what 0", far, x -> x.site(1, 0), 0);
        Edge.takenPlainly("14 t 300, what 0", far, x -> x.site(300, 0), 8);
        Edge.takenPlainly("14 t 1, what 1", far, x -> x.site(1, 1), 0);
        Edge.takenPlainly("14 t 300, what 1", far, x -> x.site(300, 1), 0);
        for (int t : NO_SPANS) {
            Edge.refusedPlainly("14 t " + t, TOWN, x -> x.site(t, 0), OUTSIDE);
        }
        for (int what : new int[] {-1, 2, Integer.MIN_VALUE, Integer.MAX_VALUE}) {
            Edge.refusedPlainly("14 what " + what, TOWN, x -> x.site(300, what), OUTSIDE);
        }
    }

    private static void site(String what, OneNail x, int t, int place, int harm) {
        Check.due(what + ": PLACE", x.site(t, 0), place);
        Check.due(what + ": HARM", x.site(t, 1), harm);
    }

    /** "of several the least" */
    private static void siteOfSeveralTheLeast() {
        site("14 all PLACES", Town.of("s9;t91991"), 300, 0, 0);
        for (int hold = 1; hold <= 9; hold++) {
            OneNail x = Town.of("s0;t910" + hold + "1");
            site("14 just then, HOLDS " + hold, x, 300, 9 - hold, 0);
            site("14 all PLACES till " + hold, x, hold, 0, 0);
            site("14 just then till " + (hold + 1), x, hold + 1, 9 - hold, 0);
        }
        // Wherever it is, one of two falls.
        site("14 near either", Town.of("s5;t21011;t91011"), 2, 1, 1);
        site("14 near the second", Town.of("s5;t21011;t91012"), 2, 8, 1);
        site("14 near the first", Town.of("s5;t21012;t91011"), 2, 1, 1);
    }

    /** "the PLACE 0 .. 9" */
    private static void sitesEnds() {
        site("14 at 0 alone", Town.of("s9;t01011;t01011"), 2, 0, 0);
        site("14 at 9 alone", Town.of("s0;t91011;t91011"), 2, 9, 0);
        site("14 at 8 still", Town.of("s0;t91011;t91021"), 2, 8, 0);
    }

    private static void withoutAStreet() {
        Edge.refusedPlainly("10 no STREET", ROWS, x -> x.best(300, -1), STATE);
        Edge.refusedPlainly("11 no STREET", ROWS, x -> x.safe(), STATE);
        Edge.refusedPlainly("12 no STREET", ROWS, x -> x.letGo(), STATE);
        Edge.refusedPlainly("13 no STREET", ROWS, x -> x.two(300, 0), STATE);
        Edge.refusedPlainly("14 no STREET", ROWS, x -> x.site(300, 0), STATE);
    }

    /** "were the SMITHY there": it is not, and nothing else is changed by asking. */
    private static void askingChangesNothing() {
        Edge.changesNothing("10", TOWN, x -> x.best(300, 0));
        Edge.changesNothing("11", TOWN, x -> x.safe());
        Edge.changesNothing("12", TOWN, x -> x.letGo());
        Edge.changesNothing("13", TOWN, x -> x.two(300, 0));
        Edge.changesNothing("14", TOWN, x -> x.site(300, 0));
        OneNail x = Town.of("s0;t91011");
        Check.due("14 the SMITHY would be at 8", x.site(300, 0), 8);
        Check.due("14 it is at 0", x.many(1), 0);
        Check.due("14 BEST is from 0 on", x.best(300, -1), 1);
    }
}
