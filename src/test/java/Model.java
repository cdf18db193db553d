import java.util.ArrayList;
import java.util.HashMap;
import java.util.List;
import java.util.Map;
import java.util.regex.Pattern;

/**
 * The document once more, minute by minute and without any shortcut, to be held against the class.
 * Sheets are Java's own rows here, and faults are what Java's machine throws.
 */
final class Model {
    private static final int LONG = 700;

    private record Item(int kind, int place, int in, int hold, int harm) { }

    private record Reading(int x, int minute, boolean up) { }

    /** By minutes: the set of what falls, the set of what is up, the thing in which the nail is. */
    private record Days(int[] falls, int[] up, int[] nail) { }

    private List<Item> things = new ArrayList<>();
    private int smithy = 0;
    private int rust = 0;
    private final List<Reading> readings = new ArrayList<>();
    private final Object[] sheets = new Object[4];
    private int trace = 0;
    private int fault = 0;
    private final Map<String, Days> known = new HashMap<>();

    // ---- 1

    int street(int sheet, int lane, int i, int n) {
        int no = cells(sheet, lane < 0 || lane > 2, lane, i, n);
        if (no != 0) {
            return no;
        }
        StringBuilder text = new StringBuilder();
        for (int k = 0; k < n; k++) {
            int code = get(sheets[sheet], i + k);
            text.append(code >= 0 && code < 256 ? (char) code : '?');
        }
        int at = firstFault(text.toString());
        if (at >= 0) {
            return -100 - at;
        }
        things = new ArrayList<>();
        smithy = text.charAt(1) - '0';
        for (String part : text.substring(3).split(";")) {
            int kind = "tdc".indexOf(part.charAt(0));
            things.add(new Item(kind, part.charAt(1) - '0', part.charAt(2) - '0',
                    Integer.parseInt(part.substring(3, 5)), part.charAt(5) - '0'));
        }
        rust = 0;
        readings.clear();
        known.clear();
        return things.size();
    }

    private static final String THING = ";[tdc][0-9][1-9](0[1-9]|[1-9][0-9])[1-9]";
    private static final Pattern TEXT = Pattern.compile("s[0-9](" + THING + "){1,6}");

    /** Whether any text begins so: the regions' hitEnd tells that more could make it one. */
    private static boolean begins(String text) {
        var matcher = TEXT.matcher(text);
        return matcher.matches() || matcher.hitEnd();
    }

    private static int firstFault(String text) {
        if (TEXT.matcher(text).matches()) {
            return -1;
        }
        for (int p = 0; p < text.length(); p++) {
            if (!begins(text.substring(0, p + 1))) {
                boolean hold = p >= 2 && (p - 2) % 7 == 5;
                return hold && text.startsWith("00", p - 1) ? p - 1 : p;
            }
        }
        return text.length();
    }

    int ofThing(int x, int what) {
        if (x < 0 || x >= things.size()) {
            return -1;
        }
        if (what < 0 || what > 5) {
            return -2;
        }
        Item it = things.get(x);
        return new int[] {it.kind, it.place, it.in, it.hold, it.harm, holds(it)}[what];
    }

    private int holds(Item it) {
        int thing = it.hold - rust < 1 ? 1 : it.hold - rust;
        int door = (int) Math.floor(thing * 1.5);
        return it.kind == 0 ? thing : it.kind == 1 ? door : door + 10;
    }

    int smithy(int place) {
        if (place < 0 || place > 9) {
            return -2;
        }
        if (things.isEmpty()) {
            return -3;
        }
        int was = smithy;
        smithy = place;
        known.clear();
        return was;
    }

    int rust(int v) {
        if (v < 0 || v > 50) {
            return -2;
        }
        if (things.isEmpty()) {
            return -3;
        }
        int was = rust;
        rust = v;
        known.clear();
        return was;
    }

    // ---- 2

    private static int get(Object row, int i) {
        return row instanceof byte[] b ? b[i] : row instanceof short[] s ? s[i] : ((int[]) row)[i];
    }

    private int fail(int number) {
        fault = number;
        return -10 - number;
    }

    private static int laneOf(Object row) {
        return row instanceof byte[] ? 0 : row instanceof short[] ? 1 : 2;
    }

    private static int lengthOf(Object row) {
        return java.lang.reflect.Array.getLength(row);
    }

    private int cells(int sheet, boolean outside, int lane, int i, int n) {
        fault = 0;
        if (sheet < 0 || sheet > 3) {
            return -1;
        }
        if (outside) {
            return -2;
        }
        Object row = sheets[sheet];
        if (row != null && laneOf(row) != lane) {
            return fail(2);
        }
        if (row == null) {
            return fail(1);
        }
        if (n < 0) {
            return fail(4);
        }
        if (i < 0 || (long) i + n > lengthOf(row)) {
            return fail(3);
        }
        return 0;
    }

    private int round(int sheet, boolean outside, int lane, int i, int n) {
        int no = cells(sheet, outside || lane < 0 || lane > 2, lane, i, n);
        if (no != 0) {
            return no;
        }
        if (things.isEmpty()) {
            return -3;
        }
        if (n < 1 || n > 8) {
            return -2;
        }
        for (int c : row(sheet, i, n)) {
            if (c < 0 || c >= things.size()) {
                return -1;
            }
        }
        return 0;
    }

    private int[] row(int sheet, int i, int n) {
        int[] row = new int[n];
        for (int k = 0; k < n; k++) {
            row[k] = get(sheets[sheet], i + k);
        }
        return row;
    }

    private Days days(int[] row, int from) {
        return known.computeIfAbsent(from + java.util.Arrays.toString(row), key -> live(row, from));
    }

    private Days live(int[] row, int from) {
        int n = things.size();
        Days days = new Days(new int[LONG], new int[LONG], new int[LONG]);
        boolean[] up = new boolean[n];
        int[] till = new int[n];
        for (int x = 0; x < n; x++) {
            up[x] = true;
            till[x] = holds(things.get(x));
        }
        int place = from;
        int turn = 0;
        int stays = 0;
        for (int m = 0; m < LONG; m++) {
            Item goal = things.get(row[turn % row.length]);
            if (stays > 0) {
                stays--;
                if (stays == 0) {
                    turn++;
                    goal = things.get(row[turn % row.length]);
                }
            }
            int x = row[turn % row.length];
            boolean came = stays == 0 && place == goal.place;
            if (came) {
                stays = goal.in;
                up[x] = true;
                till[x] = m + goal.in + holds(goal);
            }
            days.nail[m] = stays > 0 ? x : -9;
            if (stays == 0) {
                place += Integer.signum(goal.place - place);
            }
            for (int y = 0; y < n; y++) {
                if (up[y] && till[y] == m) {
                    up[y] = false;
                    days.falls[m] |= 1 << y;
                }
                days.up[m] |= up[y] ? 1 << y : 0;
            }
        }
        return days;
    }

    /** Of the things of a set alone. */
    private int harmOf(Days days, int set, int t) {
        int sum = 0;
        for (int m = 0; m < t; m++) {
            for (int x = 0; x < things.size(); x++) {
                if ((days.falls[m] & set & 1 << x) != 0) {
                    sum += things.get(x).harm;
                }
            }
        }
        return sum;
    }

    private boolean neverOf(Days days, int set) {
        for (int m = 0; m < LONG; m++) {
            if ((days.falls[m] & set) != 0) {
                return false;
            }
        }
        return true;
    }

    private int all() {
        return (1 << things.size()) - 1;
    }

    int harm(int sheet, int lane, int i, int n, int t) {
        int no = round(sheet, t < 1 || t > 300, lane, i, n);
        return no != 0 ? no : harmOf(days(row(sheet, i, n), smithy), all(), t);
    }

    int never(int sheet, int lane, int i, int n) {
        int no = round(sheet, false, lane, i, n);
        return no != 0 ? no : neverOf(days(row(sheet, i, n), smithy), all()) ? 1 : 0;
    }

    int fall(int sheet, int lane, int i, int n, int k) {
        int no = round(k < -1 ? -1 : sheet, false, lane, i, n);
        if (no != 0) {
            return no;
        }
        List<Integer> falls = new ArrayList<>();
        Days days = days(row(sheet, i, n), smithy);
        for (int m = 0; m < 300; m++) {
            for (int x = 0; x < things.size(); x++) {
                if ((days.falls[m] & 1 << x) != 0) {
                    falls.add(10 * m + x);
                }
            }
        }
        return k == -1 ? falls.size() : k < falls.size() ? falls.get(k) : -9;
    }

    int nail(int sheet, int lane, int i, int n, int t) {
        int no = round(sheet, t < 0 || t > 299, lane, i, n);
        return no != 0 ? no : days(row(sheet, i, n), smithy).nail[t];
    }

    // ---- 3

    /** All orders of a set, as rows, the first one first. */
    private List<int[]> orders(int set) {
        List<int[]> rows = new ArrayList<>();
        if (set == 0) {
            rows.add(new int[0]);
        }
        for (int x = 0; x < 6; x++) {
            if ((set & 1 << x) != 0) {
                for (int[] rest : orders(set & ~(1 << x))) {
                    int[] row = new int[rest.length + 1];
                    row[0] = x;
                    System.arraycopy(rest, 0, row, 1, rest.length);
                    rows.add(row);
                }
            }
        }
        return rows;
    }

    private int least(int set, int from, int t) {
        int least = set == 0 ? 0 : Integer.MAX_VALUE;
        for (int[] row : orders(set)) {
            if (row.length > 0) {
                least = Math.min(least, harmOf(days(row, from), set, t));
            }
        }
        return least;
    }

    int best(int t, int q) {
        if (things.isEmpty()) {
            return -3;
        }
        if (t < 1 || t > 300) {
            return -2;
        }
        if (q < -1 || q > things.size() - 1) {
            return -1;
        }
        int least = least(all(), smithy, t);
        if (q == -1) {
            return least;
        }
        for (int[] row : orders(all())) {
            if (harmOf(days(row, smithy), all(), t) == least) {
                return row[q];
            }
        }
        throw new IllegalStateException();
    }

    private int countSafe(int set) {
        int sum = 0;
        for (int[] row : orders(set)) {
            if (row.length == 0 || neverOf(days(row, smithy), set)) {
                sum++;
            }
        }
        return sum;
    }

    int safe() {
        return things.isEmpty() ? -3 : countSafe(all());
    }

    int letGo() {
        if (things.isEmpty()) {
            return -3;
        }
        for (int few = 0; few <= 6; few++) {
            for (int set = 0; set <= all(); set++) {
                if (Integer.bitCount(set) == few && countSafe(all() & ~set) > 0) {
                    return set;
                }
            }
        }
        throw new IllegalStateException();
    }

    int two(int t, int what) {
        if (things.isEmpty()) {
            return -3;
        }
        if (t < 1 || t > 300 || what < 0 || what > 1) {
            return -2;
        }
        int[] least = new int[all() + 1];
        for (int set = 0; set <= all(); set++) {
            least[set] = least(set, smithy, t);
        }
        int best = 0;
        for (int set = 0; set <= all(); set++) {
            if (least[set] + least[all() ^ set] < least[best] + least[all() ^ best]) {
                best = set;
            }
        }
        return what == 0 ? best : least[best] + least[all() ^ best];
    }

    int site(int t, int what) {
        if (things.isEmpty()) {
            return -3;
        }
        if (t < 1 || t > 300 || what < 0 || what > 1) {
            return -2;
        }
        int best = 0;
        int[] least = new int[10];
        for (int p = 0; p < 10; p++) {
            least[p] = least(all(), p, t);
            best = least[p] < least[best] ? p : best;
        }
        return what == 0 ? best : least[best];
    }

    // ---- 4

    int reading(int x, int minute, boolean up) {
        if (x < 0 || x >= things.size()) {
            return -1;
        }
        if (minute < 0 || minute > 299) {
            return -2;
        }
        if (readings.size() == 8) {
            return -4;
        }
        readings.add(new Reading(x, minute, up));
        return readings.size() - 1;
    }

    int back(int k) {
        if (k < 0 || k > readings.size()) {
            return -2;
        }
        for (int c = 0; c < k; c++) {
            readings.remove(readings.size() - 1);
        }
        return readings.size();
    }

    int fits(int q) {
        if (things.isEmpty()) {
            return -3;
        }
        if (q < -1 || q > things.size() - 1) {
            return -1;
        }
        List<int[]> fitting = new ArrayList<>();
        for (int[] row : orders(all())) {
            boolean so = true;
            for (Reading r : readings) {
                so &= ((days(row, smithy).up[r.minute] & 1 << r.x) != 0) == r.up;
            }
            if (so) {
                fitting.add(row);
            }
        }
        return q == -1 ? fitting.size() : fitting.isEmpty() ? -9 : fitting.get(0)[q];
    }

    // ---- 5

    int sheet(int k, int lane, int n) {
        fault = 0;
        if (k < 0 || k > 3) {
            return -1;
        }
        if (lane < 0 || lane > 2 || n > 60) {
            return -2;
        }
        try {
            sheets[k] = lane == 0 ? new byte[n] : lane == 1 ? new short[n] : new int[n];
        } catch (NegativeArraySizeException e) {
            return fail(4);
        }
        return 1;
    }

    int lose(int k) {
        if (k < 0 || k > 3) {
            return -1;
        }
        int had = sheets[k] == null ? 0 : 1;
        sheets[k] = null;
        return had;
    }

    int put(int k, int i, int v) {
        fault = 0;
        if (k < 0 || k > 3) {
            return -1;
        }
        try {
            if (sheets[k] instanceof byte[] b) {
                b[i] = (byte) v;
            } else if (sheets[k] instanceof short[] s) {
                s[i] = (short) v;
            } else {
                ((int[]) sheets[k])[i] = v;
            }
        } catch (NullPointerException e) {
            return fail(1);
        } catch (IndexOutOfBoundsException e) {
            return fail(3);
        }
        return 1;
    }

    long cell(int k, int i, int lane) {
        fault = 0;
        if (k < 0 || k > 3 || lane < 0 || lane > 2) {
            return Long.MIN_VALUE;
        }
        try {
            return lane == 0 ? ((byte[]) sheets[k])[i] : lane == 1 ? ((short[]) sheets[k])[i] : ((int[]) sheets[k])[i];
        } catch (ClassCastException e) {
            fail(2);
        } catch (NullPointerException e) {
            fail(1);
        } catch (IndexOutOfBoundsException e) {
            fail(3);
        }
        return Long.MIN_VALUE;
    }

    @SuppressWarnings("SuspiciousSystemArraycopy")
    int copy(int k, int i, int other, int j, int n) {
        fault = 0;
        if (k < 0 || k > 3 || other < 0 || other > 3) {
            return -1;
        }
        try {
            System.arraycopy(sheets[k], i, sheets[other], j, n);
        } catch (NullPointerException e) {
            return fail(1);
        } catch (ArrayStoreException e) {
            return fail(2);
        } catch (IndexOutOfBoundsException e) {
            return fail(3);
        }
        return n;
    }

    private void leave(int number) {
        trace = trace * 31 + number;
    }

    private int tellAs(Item it, int kind) {
        leave(kind + 1);
        return switch (kind) {
            case 0 -> it.hold;
            case 1 -> tellAs(it, 0) + 100;
            default -> tellAs(it, 1) + tellAs(it, 0);
        };
    }

    int tell(int x) {
        return x < 0 || x >= things.size() ? -1 : tellAs(things.get(x), things.get(x).kind);
    }

    int strike(int x) {
        if (x < 0 || x >= things.size()) {
            return -1;
        }
        boolean coffin = things.get(x).kind == 2;
        leave(coffin ? 5 : 4);
        return coffin ? 30 : x;
    }

    int as(int x, int kind) {
        fault = 0;
        if (x < 0 || x >= things.size()) {
            return -1;
        }
        if (kind < 0 || kind > 2) {
            return -2;
        }
        return things.get(x).kind >= kind ? 1 : fail(2);
    }

    int trace() {
        return trace;
    }

    int fault() {
        return fault;
    }

    int many(int what) {
        return switch (what) {
            case 0 -> things.size();
            case 1 -> smithy;
            case 2 -> rust;
            case 3 -> readings.size();
            default -> -2;
        };
    }
}
