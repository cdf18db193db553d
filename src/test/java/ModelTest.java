import java.util.Random;

/** All promises: long runs of calls, right and wrong ones, answered as the model answers them. */
public final class ModelTest {
    private static final int[] EDGES = {
        Integer.MIN_VALUE, Integer.MIN_VALUE + 1, -1000, -11, -2, -1, 0, 1, 2, 3, 4, 5, 6, 7, 8, 9, 10, 29, 30, 50,
        51, 59, 60, 61, 255, 256, 298, 299, 300, 301, 65536, Integer.MAX_VALUE - 1, Integer.MAX_VALUE};

    private final Random chance;
    private final OneNail x = new OneNail();
    private final Model m = new Model();
    private final String run;
    private int calls = 0;

    private ModelTest(int seed) {
        chance = new Random(seed * 0x9E3779B97F4A7C15L);
        run = "run " + seed + " ";
    }

    public static void main(String[] args) {
        int runs = args.length > 0 ? Integer.parseInt(args[0]) : 400;
        for (int seed = 1; seed <= runs; seed++) {
            new ModelTest(seed).go();
        }
        Check.end();
    }

    private void due(String call, long got, long want) {
        calls++;
        Check.due(run + "call " + calls + " " + call, got, want);
    }

    private void go() {
        int dear = 0;
        if (below(8) > 0) {
            layText(text());
        }
        while (calls < 500) {
            int kind = below(40);
            if (kind < 2) {
                layText(below(3) == 0 ? spoiled(text()) : text());
            } else if (kind < 8) {
                layRound();
            } else if (kind < 14) {
                sheets();
            } else if (kind < 22) {
                parts();
            } else if (kind < 26) {
                orders(dear > 12);
                dear++;
            } else if (kind < 39) {
                readings();
            } else {
                wild();
            }
            due("fault()", x.fault(), m.fault());
        }
        due("trace()", x.trace(), m.trace());
    }

    private int below(int n) {
        return chance.nextInt(n);
    }

    /** Mostly of 0 .. n - 1, now and then an edge. */
    private int near(int n) {
        int kind = below(12);
        return kind == 0 ? EDGES[below(EDGES.length)] : kind == 1 ? below(n + 4) - 2 : below(n);
    }

    private String text() {
        int things = 1 + below(below(3) == 0 ? 6 : 4);
        boolean tight = chance.nextBoolean();
        StringBuilder text = new StringBuilder("s").append(below(10));
        for (int k = 0; k < things; k++) {
            int hold = 1 + below(tight ? 25 : 99);
            text.append(';').append("tdc".charAt(below(3)));
            text.append(below(tight ? 4 : 10)).append(1 + below(tight ? 3 : 9));
            text.append(hold / 10).append(hold % 10).append(1 + below(9));
        }
        return text.toString();
    }

    private String spoiled(String text) {
        StringBuilder out = new StringBuilder(text);
        switch (below(4)) {
            case 0 -> out.setLength(below(out.length() + 1));
            case 1 -> out.setCharAt(below(out.length()), "stdc;0123456789x /:".charAt(below(19)));
            case 2 -> out.insert(below(out.length() + 1), "stdc;09".charAt(below(7)));
            default -> out.append(";t01011;d01011;c01");
        }
        return out.length() > 60 ? out.substring(0, 60) : out.toString();
    }

    private void layText(String text) {
        int k = below(4);
        int lane = below(3);
        int i = below(Math.min(4, 61 - text.length()));
        int n = i + text.length();
        due("sheet", x.sheet(k, lane, n), m.sheet(k, lane, n));
        for (int c = 0; c < text.length(); c++) {
            due("put", x.put(k, i + c, text.charAt(c)), m.put(k, i + c, text.charAt(c)));
        }
        due("street " + text, x.street(k, lane, i, text.length()), m.street(k, lane, i, text.length()));
        for (int what = 0; what < 4; what++) {
            due("many " + what, x.many(what), m.many(what));
        }
    }

    private void layRound() {
        int k = below(4);
        int lane = below(3);
        int n = 1 + below(8);
        int i = below(4);
        int length = i + n + below(2);
        int things = Math.max(1, m.many(0));
        due("sheet", x.sheet(k, lane, length), m.sheet(k, lane, length));
        for (int c = 0; c < n; c++) {
            int thing = below(60) == 0 ? things : c < things && below(3) > 0 ? c : below(things);
            due("put", x.put(k, i + c, thing), m.put(k, i + c, thing));
        }
        for (int c = 0; c < 4; c++) {
            rounds(k, below(12) == 0 ? near(3) : lane, below(12) == 0 ? near(9) : i, below(12) == 0 ? near(9) : n);
        }
    }

    private void rounds(int k, int lane, int i, int n) {
        String at = "(" + k + ", " + lane + ", " + i + ", " + n + ")";
        int t = near(300);
        int fall = below(3) == 0 ? -1 : near(12);
        due("harm" + at + t, x.harm(k, lane, i, n, t), m.harm(k, lane, i, n, t));
        due("never" + at, x.never(k, lane, i, n), m.never(k, lane, i, n));
        due("fall" + at + fall, x.fall(k, lane, i, n, fall), m.fall(k, lane, i, n, fall));
        due("nail" + at + t, x.nail(k, lane, i, n, t), m.nail(k, lane, i, n, t));
    }

    private void sheets() {
        int k = near(4);
        int other = near(4);
        int i = near(12);
        int j = near(12);
        int n = near(12);
        int v = chance.nextInt();
        int lane = near(3);
        switch (below(7)) {
            case 0 -> due("sheet", x.sheet(k, lane, n), m.sheet(k, lane, n));
            case 1 -> due("lose", x.lose(k), m.lose(k));
            case 2, 3 -> due("put", x.put(k, i, v), m.put(k, i, v));
            case 4 -> due("cell", x.cell(k, i, lane), m.cell(k, i, lane));
            default -> {
                int few = below(2) == 0 ? n : below(4);
                due("sheet", x.sheet(k, lane, 12), m.sheet(k, lane, 12));
                for (int c = 0; c < 6; c++) {
                    due("put", x.put(k, i + c, v + c), m.put(k, i + c, v + c));
                }
                due("copy", x.copy(k, i, other, j, few), m.copy(k, i, other, j, few));
                for (int c = 0; c < 6; c++) {
                    due("cell", x.cell(other, j + c, lane), m.cell(other, j + c, lane));
                }
            }
        }
    }

    private void parts() {
        int thing = near(6);
        int what = near(6);
        switch (below(7)) {
            case 0 -> due("ofThing", x.ofThing(thing, what), m.ofThing(thing, what));
            case 1 -> due("tell", x.tell(thing), m.tell(thing));
            case 2 -> due("strike", x.strike(thing), m.strike(thing));
            case 3 -> due("as", x.as(thing, what / 2), m.as(thing, what / 2));
            case 4 -> due("many", x.many(what), m.many(what));
            case 5 -> due("smithy", x.smithy(what), m.smithy(what));
            default -> {
                int v = below(3) == 0 ? near(51) : below(6);
                due("rust", x.rust(v), m.rust(v));
                for (int k = 0; k < 6; k++) {
                    due("ofThing", x.ofThing(k, 5), m.ofThing(k, 5));
                }
            }
        }
        due("trace", x.trace(), m.trace());
    }

    private void orders(boolean cheap) {
        int t = below(3) == 0 ? 300 : near(301);
        int q = near(6);
        if (cheap && m.many(0) > 4) {
            return;
        }
        due("best " + t, x.best(t, -1), m.best(t, -1));
        due("best " + t + " " + q, x.best(t, q), m.best(t, q));
        due("safe", x.safe(), m.safe());
        int what = near(2);
        due("letGo", x.letGo(), m.letGo());
        due("two " + t + " " + what, x.two(t, what), m.two(t, what));
        due("site " + t + " " + what, x.site(t, what), m.site(t, what));
    }

    private void readings() {
        int thing = below(8) == 0 ? near(6) : below(Math.max(1, m.many(0)));
        int minute = below(3) == 0 ? near(300) : below(40);
        boolean up = below(3) > 0;
        int q = near(6);
        int k = near(3);
        switch (below(5)) {
            case 0, 1 -> due("reading", x.reading(thing, minute, up), m.reading(thing, minute, up));
            case 2 -> due("back", x.back(k), m.back(k));
            case 3 -> due("fits", x.fits(-1), m.fits(-1));
            default -> due("fits " + q, x.fits(q), m.fits(q));
        }
    }

    private int any() {
        return EDGES[below(EDGES.length)];
    }

    private void wild() {
        int a = any();
        int b = any();
        int c = any();
        int d = any();
        int e = any();
        int lane = below(3);
        int k = below(4);
        due("street", x.street(k, lane, c, d), m.street(k, lane, c, d));
        due("harm", x.harm(k, lane, c, d, e), m.harm(k, lane, c, d, e));
        due("never", x.never(a, b, c, d), m.never(a, b, c, d));
        due("fall", x.fall(k, lane, c, d, e), m.fall(k, lane, c, d, e));
        due("nail", x.nail(k, lane, c, d, e), m.nail(k, lane, c, d, e));
        due("copy", x.copy(k, a, (k + lane) & 3, b, c), m.copy(k, a, (k + lane) & 3, b, c));
        due("fault", x.fault(), m.fault());
        due("put", x.put(k, a, b), m.put(k, a, b));
        due("cell", x.cell(k, a, lane), m.cell(k, a, lane));
        due("ofThing", x.ofThing(a, b), m.ofThing(a, b));
        due("as", x.as(a, b), m.as(a, b));
        due("reading", x.reading(a, b, true), m.reading(a, b, true));
        due("back", x.back(a), m.back(a));
        due("many", x.many(b), m.many(b));
        due("tell", x.tell(a), m.tell(a));
        due("strike", x.strike(b), m.strike(b));
    }
}
