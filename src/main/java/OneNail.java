/** One nail for the whole town; ../shared/DOC.md has the promises, and the words in capitals. */
public final class OneNail {
    public static final int UNKNOWN = -1, OUTSIDE = -2, STATE = -3, FULL = -4, NONE = -9;
    public static final long LOST = Long.MIN_VALUE;

    private static final int NULL = 1, CAST = 2, INDEX = 3, SIZE = 4;
    // Every refusal is below 0, so that 0 is free to say that a call may go on.
    private static final int PASSED = 0;

    private static final int MOST_PLACE = 9;
    private static final int MOST_RUST = 50;
    private static final int MOST_MINUTES = 300;
    private static final int MOST_THINGS = 6;
    private static final int MOST_SETS = 64;
    private static final int MOST_IN_ROUND = 8;
    private static final int MOST_READINGS = 8;
    private static final int MOST_CELLS = 60;
    private static final int SHEETS = 4;
    private static final int LANES = 3;
    private static final int KINDS = 3;
    // No harm and no count of orders comes near it.
    private static final int BEYOND = 1_000_000;

    private static final int HEAD_CODES = 2;
    private static final int THING_CODES = 7;

    private final Street town = new Street();
    private final Readings seen = new Readings();
    private final Walk walk = new Walk(town);
    private final Orders orders = new Orders(town);
    private final Sheet[] sheets = new Sheet[SHEETS];
    private final int[] leastOf = new int[MOST_SETS];
    private final Trace traced = new Trace();
    private int lastFault = 0;

    public OneNail() {
        for (int k = 0; k < sheets.length; k++) {
            sheets[k] = new Sheet();
        }
    }

    // ---- 1 the street

    public int street(int sheet, int lane, int i, int n) {
        int refusal = refuseCells(sheet, isLane(lane), lane, i, n);
        Sheet text = sheetAt(sheet);
        if (refusal != PASSED || text == null) {
            return refusal;
        }
        int place = firstFault(text, i, n);
        if (place >= 0) {
            return -100 - place;
        }
        takeText(text, i, n);
        return town.count;
    }

    public int ofThing(int x, int what) {
        Thing thing = town.thingAt(x);
        if (thing == null) {
            return UNKNOWN;
        }
        switch (what) {
            case 0: return thing.kindNumber();
            case 1: return thing.place;
            case 2: return thing.stay;
            case 3: return thing.hold;
            case 4: return thing.harmDone;
            case 5: return thing.holdsBy(town.rusted);
            default: return OUTSIDE;
        }
    }

    public int smithy(int place) {
        if (place < 0 || place > MOST_PLACE) {
            return OUTSIDE;
        }
        if (town.count == 0) {
            return STATE;
        }
        int was = town.smithyPlace;
        town.smithyPlace = place;
        return was;
    }

    public int rust(int v) {
        if (v < 0 || v > MOST_RUST) {
            return OUTSIDE;
        }
        if (town.count == 0) {
            return STATE;
        }
        int was = town.rusted;
        town.becomeRusty(v);
        return was;
    }

    // ---- 2 rounds

    public int harm(int sheet, int lane, int i, int n, int t) {
        int refusal = refuseRound(sheet, isLane(lane) && isSpan(t), lane, i, n);
        if (refusal != PASSED) {
            return refusal;
        }
        walk.markFalls();
        return walk.harmBelow(t);
    }

    public int never(int sheet, int lane, int i, int n) {
        int refusal = refuseRound(sheet, isLane(lane), lane, i, n);
        if (refusal != PASSED) {
            return refusal;
        }
        return walk.nothingEverFalls() ? 1 : 0;
    }

    public int fall(int sheet, int lane, int i, int n, int k) {
        // A k below -1 is refused just as a sheet that is none, so it is told as one.
        int refusal = refuseRound(k < -1 ? UNKNOWN : sheet, isLane(lane), lane, i, n);
        if (refusal != PASSED) {
            return refusal;
        }
        walk.markFalls();
        return k == -1 ? walk.countFalls() : walk.fallNumber(k);
    }

    public int nail(int sheet, int lane, int i, int n, int t) {
        int refusal = refuseRound(sheet, isLane(lane) && isMinute(t), lane, i, n);
        if (refusal != PASSED) {
            return refusal;
        }
        return walk.whereAt(t);
    }

    // ---- 3 orders

    public int best(int t, int q) {
        if (town.count == 0) {
            return STATE;
        }
        if (!isSpan(t)) {
            return OUTSIDE;
        }
        if (q < -1 || q >= town.count) {
            return UNKNOWN;
        }
        int least = orders.leastHarm(town.all(), town.smithyPlace, t);
        return q == -1 ? least : orders.keptAt(q);
    }

    public int safe() {
        if (town.count == 0) {
            return STATE;
        }
        return orders.countSafe(town.all(), BEYOND);
    }

    public int letGo() {
        if (town.count == 0) {
            return STATE;
        }
        int all = town.all();
        int fewest = all;
        for (int set = 0; set <= all; set++) {
            boolean fewer = Integer.bitCount(set) < Integer.bitCount(fewest);
            if (fewer && orders.countSafe(all & ~set, 1) > 0) {
                fewest = set;
            }
        }
        return fewest;
    }

    public int two(int t, int what) {
        if (town.count == 0) {
            return STATE;
        }
        if (!isSpan(t) || !isHalf(what)) {
            return OUTSIDE;
        }
        int all = town.all();
        for (int set = 0; set <= all && set < leastOf.length; set++) {
            leastOf[set] = orders.leastHarm(set, town.smithyPlace, t);
        }
        int bestSet = 0;
        for (int set = 1; set <= all; set++) {
            if (harmOfBoth(set) < harmOfBoth(bestSet)) {
                bestSet = set;
            }
        }
        return what == 0 ? bestSet : harmOfBoth(bestSet);
    }

    public int site(int t, int what) {
        if (town.count == 0) {
            return STATE;
        }
        if (!isSpan(t) || !isHalf(what)) {
            return OUTSIDE;
        }
        int bestPlace = 0;
        int least = orders.leastHarm(town.all(), 0, t);
        for (int place = 1; place <= MOST_PLACE && least > 0; place++) {
            int there = orders.leastHarm(town.all(), place, t);
            if (there < least) {
                least = there;
                bestPlace = place;
            }
        }
        return what == 0 ? bestPlace : least;
    }

    // ---- 4 what hung when

    public int reading(int x, int minute, boolean up) {
        if (!town.has(x)) {
            return UNKNOWN;
        }
        if (!isMinute(minute)) {
            return OUTSIDE;
        }
        return seen.note(x, minute, up);
    }

    public int back(int k) {
        if (k < 0 || k > seen.count) {
            return OUTSIDE;
        }
        seen.count -= k;
        return seen.count;
    }

    public int fits(int q) {
        if (town.count == 0) {
            return STATE;
        }
        if (q < -1 || q >= town.count) {
            return UNKNOWN;
        }
        int how = orders.countFitting(town.all(), seen);
        if (q == -1) {
            return how;
        }
        return how == 0 ? NONE : orders.keptAt(q);
    }

    // ---- 5 sheets, parts

    public int sheet(int k, int lane, int n) {
        lastFault = 0;
        Sheet sheet = sheetAt(k);
        if (sheet == null) {
            return UNKNOWN;
        }
        if (!isLane(lane) || n > MOST_CELLS) {
            return OUTSIDE;
        }
        if (n < 0) {
            return failBy(SIZE);
        }
        sheet.makeRow(lane, n);
        return 1;
    }

    public int lose(int k) {
        Sheet sheet = sheetAt(k);
        if (sheet == null) {
            return UNKNOWN;
        }
        if (sheet.isNothing()) {
            return 0;
        }
        sheet.makeNothing();
        return 1;
    }

    public int put(int k, int i, int v) {
        lastFault = 0;
        Sheet sheet = sheetAt(k);
        if (sheet == null) {
            return UNKNOWN;
        }
        if (sheet.isNothing()) {
            return failBy(NULL);
        }
        if (!sheet.hasCell(i)) {
            return failBy(INDEX);
        }
        sheet.write(i, v);
        return 1;
    }

    public long cell(int k, int i, int lane) {
        lastFault = 0;
        Sheet sheet = sheetAt(k);
        if (sheet == null || !isLane(lane) || refuseLane(sheet, lane) != PASSED) {
            return LOST;
        }
        if (!sheet.hasCell(i)) {
            failBy(INDEX);
            return LOST;
        }
        return sheet.read(i);
    }

    public int copy(int k, int i, int other, int j, int n) {
        lastFault = 0;
        Sheet from = sheetAt(k);
        Sheet to = sheetAt(other);
        if (from == null || to == null) {
            return UNKNOWN;
        }
        if (from.isNothing() || to.isNothing()) {
            return failBy(NULL);
        }
        if (from.lane != to.lane) {
            return failBy(CAST);
        }
        if (!from.spans(i, n) || !to.spans(j, n)) {
            return failBy(INDEX);
        }
        System.arraycopy(from.cells, i, to.cells, j, n);
        return n;
    }

    public int tell(int x) {
        Thing thing = town.thingAt(x);
        return thing == null ? UNKNOWN : thing.telling(traced);
    }

    public int strike(int x) {
        Thing thing = town.thingAt(x);
        return thing == null ? UNKNOWN : thing.struck(traced);
    }

    public int as(int x, int kind) {
        lastFault = 0;
        Thing thing = town.thingAt(x);
        if (thing == null) {
            return UNKNOWN;
        }
        if (kind < 0 || kind >= KINDS) {
            return OUTSIDE;
        }
        // Each kind is one of all kinds that are numbered below it.
        return thing.kindNumber() < kind ? failBy(CAST) : 1;
    }

    public int trace() {
        return traced.value;
    }

    public int fault() {
        return lastFault;
    }

    public int many(int what) {
        switch (what) {
            case 0: return town.count;
            case 1: return town.smithyPlace;
            case 2: return town.rusted;
            case 3: return seen.count;
            default: return OUTSIDE;
        }
    }

    // ---- refusals

    private static boolean isLane(int lane) {
        return lane >= 0 && lane < LANES;
    }

    private static boolean isSpan(int t) {
        return t >= 1 && t <= MOST_MINUTES;
    }

    private static boolean isMinute(int t) {
        return t >= 0 && t < MOST_MINUTES;
    }

    private static boolean isHalf(int what) {
        return what == 0 || what == 1;
    }

    private Sheet sheetAt(int k) {
        return k >= 0 && k < sheets.length ? sheets[k] : null;
    }

    private int failBy(int number) {
        lastFault = number;
        return -10 - number;
    }

    private int refuseLane(Sheet sheet, int lane) {
        if (sheet.isNothing()) {
            return failBy(NULL);
        }
        return sheet.lane != lane ? failBy(CAST) : PASSED;
    }

    private int refuseCells(int k, boolean inside, int lane, int i, int n) {
        lastFault = 0;
        Sheet sheet = sheetAt(k);
        if (sheet == null) {
            return UNKNOWN;
        }
        if (!inside) {
            return OUTSIDE;
        }
        int refusal = refuseLane(sheet, lane);
        if (refusal != PASSED) {
            return refusal;
        }
        if (n < 0) {
            return failBy(SIZE);
        }
        return sheet.spans(i, n) ? PASSED : failBy(INDEX);
    }

    /** What passes is also laid as the row by which the walk goes. */
    private int refuseRound(int k, boolean inside, int lane, int i, int n) {
        int refusal = refuseCells(k, inside, lane, i, n);
        Sheet sheet = sheetAt(k);
        if (refusal != PASSED || sheet == null) {
            return refusal;
        }
        if (town.count == 0) {
            return STATE;
        }
        if (n < 1 || n > MOST_IN_ROUND) {
            return OUTSIDE;
        }
        for (int c = 0; c < n; c++) {
            if (!town.has(sheet.read(i + c))) {
                return UNKNOWN;
            }
        }
        walk.layRound(sheet, i, n);
        return PASSED;
    }

    // ---- helpers of the street and of two nails

    private static int firstFault(Sheet text, int i, int n) {
        for (int p = 0; p < n; p++) {
            int code = text.read(i + p);
            if (!goesOn(p, code)) {
                return p;
            }
            boolean endsHold = p >= HEAD_CODES && (p - HEAD_CODES) % THING_CODES == 5;
            if (endsHold && code == '0' && text.read(i + p - 1) == '0') {
                return p - 1;
            }
        }
        boolean whole = n >= HEAD_CODES + THING_CODES && (n - HEAD_CODES) % THING_CODES == 0;
        return whole ? -1 : n;
    }

    private static boolean goesOn(int p, int code) {
        if (p < HEAD_CODES) {
            return p == 0 ? code == 's' : isDigit(code);
        }
        switch ((p - HEAD_CODES) % THING_CODES) {
            case 0: return code == ';' && (p - HEAD_CODES) / THING_CODES < MOST_THINGS;
            case 1: return code == 't' || code == 'd' || code == 'c';
            case 3:
            case 6: return isDigit(code) && code != '0';
            default: return isDigit(code);
        }
    }

    private static boolean isDigit(int code) {
        return code >= '0' && code <= '9';
    }

    private void takeText(Sheet text, int i, int n) {
        town.empty(text.read(i + 1) - '0');
        int things = (n - HEAD_CODES) / THING_CODES;
        for (int x = 0; x < things; x++) {
            town.addThing(readThing(text, i + HEAD_CODES + x * THING_CODES, x));
        }
        town.becomeRusty(0);
        seen.count = 0;
    }

    private static Thing readThing(Sheet text, int at, int number) {
        int letter = text.read(at + 1);
        int place = text.read(at + 2) - '0';
        int stay = text.read(at + 3) - '0';
        int hold = 10 * (text.read(at + 4) - '0') + text.read(at + 5) - '0';
        int harmDone = text.read(at + 6) - '0';
        if (letter == 'c') {
            return new Coffin(number, place, stay, hold, harmDone);
        }
        if (letter == 'd') {
            return new Door(number, place, stay, hold, harmDone);
        }
        return new Thing(number, place, stay, hold, harmDone);
    }

    private int harmOfBoth(int set) {
        int others = town.all() & ~set;
        if (set < 0 || set >= leastOf.length || others >= leastOf.length) {
            return 0;
        }
        return leastOf[set] + leastOf[others];
    }

    // ---- parts

    static final class Trace {
        int value = 0;

        void leave(int number) {
            value = 31 * value + number;
        }
    }

    static class Thing {
        final int number;
        final int place;
        final int stay;
        final int hold;
        final int harmDone;

        Thing(int number, int place, int stay, int hold, int harmDone) {
            this.number = number;
            this.place = place;
            this.stay = stay;
            this.hold = hold;
            this.harmDone = harmDone;
        }

        int kindNumber() {
            return 0;
        }

        int holdsBy(int rusted) {
            return Math.max(1, hold - rusted);
        }

        int telling(Trace trace) {
            return plainTelling(trace);
        }

        // Its own method, so that a coffin reaches it with the door's left out.
        final int plainTelling(Trace trace) {
            trace.leave(1);
            return hold;
        }

        int struck(Trace trace) {
            trace.leave(4);
            return number;
        }
    }

    static class Door extends Thing {
        Door(int number, int place, int stay, int hold, int harmDone) {
            super(number, place, stay, hold, harmDone);
        }

        @Override
        int kindNumber() {
            return 1;
        }

        @Override
        int holdsBy(int rusted) {
            int plain = super.holdsBy(rusted);
            return plain + plain / 2;
        }

        @Override
        int telling(Trace trace) {
            trace.leave(2);
            return super.telling(trace) + 100;
        }
    }

    static final class Coffin extends Door {
        Coffin(int number, int place, int stay, int hold, int harmDone) {
            super(number, place, stay, hold, harmDone);
        }

        @Override
        int kindNumber() {
            return 2;
        }

        @Override
        int holdsBy(int rusted) {
            return super.holdsBy(rusted) + 10;
        }

        @Override
        int telling(Trace trace) {
            trace.leave(3);
            int door = super.telling(trace);
            return door + plainTelling(trace);
        }

        @Override
        int struck(Trace trace) {
            trace.leave(5);
            return 30;
        }
    }

    /** The things, and their numbers once more as rows: the orders look at them some thousand times a call. */
    static final class Street {
        int count = 0;
        int smithyPlace = 0;
        int rusted = 0;
        final Thing[] things = new Thing[MOST_THINGS];
        final int[] places = new int[MOST_THINGS];
        final int[] stays = new int[MOST_THINGS];
        final int[] harms = new int[MOST_THINGS];
        final int[] holds = new int[MOST_THINGS];

        void empty(int place) {
            count = 0;
            smithyPlace = place;
        }

        void addThing(Thing thing) {
            if (count >= MOST_THINGS) {
                return;
            }
            things[count] = thing;
            places[count] = thing.place;
            stays[count] = thing.stay;
            harms[count] = thing.harmDone;
            count++;
        }

        void becomeRusty(int v) {
            rusted = v;
            for (int x = 0; x < count; x++) {
                Thing thing = things[x];
                if (thing != null) {
                    holds[x] = thing.holdsBy(v);
                }
            }
        }

        boolean has(int x) {
            return x >= 0 && x < count;
        }

        Thing thingAt(int x) {
            return has(x) ? things[x] : null;
        }

        int all() {
            return (1 << count) - 1;
        }
    }

    static final class Readings {
        int count = 0;
        final int[] things = new int[MOST_READINGS];
        final int[] minutes = new int[MOST_READINGS];
        final boolean[] ups = new boolean[MOST_READINGS];

        int note(int x, int minute, boolean up) {
            if (count >= MOST_READINGS) {
                return FULL;
            }
            things[count] = x;
            minutes[count] = minute;
            ups[count] = up;
            count++;
            return count - 1;
        }
    }

    /** A row of ints for every lane: what comes to a cell is cut, so that all lanes fit. */
    static final class Sheet {
        static final int NO_LANE = -1;

        int lane = NO_LANE;
        int length = 0;
        final int[] cells = new int[MOST_CELLS];

        boolean isNothing() {
            return lane == NO_LANE;
        }

        void makeNothing() {
            lane = NO_LANE;
            length = 0;
        }

        void makeRow(int newLane, int n) {
            lane = newLane;
            length = Math.max(0, Math.min(n, MOST_CELLS));
            for (int i = 0; i < length; i++) {
                cells[i] = 0;
            }
        }

        boolean hasCell(int i) {
            return i >= 0 && i < length;
        }

        /** By a difference, as a sum of the two could wrap. */
        boolean spans(int i, int n) {
            return n >= 0 && i >= 0 && i <= length && n <= length - i;
        }

        int read(int i) {
            return hasCell(i) ? cells[i] : 0;
        }

        void write(int i, int v) {
            if (!hasCell(i)) {
                return;
            }
            if (lane == 0) {
                cells[i] = (byte) v;
            } else if (lane == 1) {
                cells[i] = (short) v;
            } else {
                cells[i] = v;
            }
        }
    }

    /** A round, gone from one coming of the nail to the next. */
    static final class Walk {
        private final Street town;
        private final int[] round = new int[MOST_IN_ROUND];
        private int length = 0;
        // Till which minute each thing would be up.
        private final int[] until = new int[MOST_THINGS];
        // For each minute the set of the things that fall at it.
        private final int[] fallen = new int[MOST_MINUTES];
        // Which of the row is next, and from where and when the nail goes to it.
        private int spot = 0;
        private int from = 0;
        private int leaves = 0;
        private int thing = 0;
        private int comes = 0;

        Walk(Street town) {
            this.town = town;
        }

        void layRound(Sheet sheet, int i, int n) {
            length = Math.min(n, MOST_IN_ROUND);
            for (int c = 0; c < length; c++) {
                round[c] = sheet.read(i + c);
            }
        }

        private void begin() {
            spot = 0;
            from = town.smithyPlace;
            leaves = 0;
            for (int x = 0; x < town.count; x++) {
                until[x] = town.holds[x];
            }
        }

        private void goOn() {
            thing = round[spot];
            comes = leaves + Math.abs(town.places[thing] - from);
            from = town.places[thing];
            leaves = comes + town.stays[thing];
            spot = spot + 1 < length ? spot + 1 : 0;
        }

        private void nailed() {
            until[thing] = leaves + town.holds[thing];
        }

        private void markFall(int x) {
            int minute = until[x];
            if (minute >= 0 && minute < MOST_MINUTES) {
                fallen[minute] |= 1 << x;
            }
        }

        void markFalls() {
            for (int m = 0; m < MOST_MINUTES; m++) {
                fallen[m] = 0;
            }
            begin();
            // The nail stays a minute at least, so it comes no more often than there are minutes.
            for (int k = 0; k < MOST_MINUTES; k++) {
                goOn();
                if (comes >= MOST_MINUTES) {
                    break;
                }
                if (until[thing] < comes) {
                    markFall(thing);
                }
                nailed();
            }
            for (int x = 0; x < town.count; x++) {
                markFall(x);
            }
        }

        int harmBelow(int t) {
            int sum = 0;
            for (int m = 0; m < t && m < MOST_MINUTES; m++) {
                for (int x = 0; fallen[m] != 0 && x < town.count; x++) {
                    sum += (fallen[m] >> x & 1) * town.harms[x];
                }
            }
            return sum;
        }

        int countFalls() {
            int sum = 0;
            for (int m = 0; m < MOST_MINUTES; m++) {
                sum += Integer.bitCount(fallen[m]);
            }
            return sum;
        }

        int fallNumber(int k) {
            int left = k;
            for (int m = 0; m < MOST_MINUTES; m++) {
                for (int x = 0; fallen[m] != 0 && x < town.count; x++) {
                    if ((fallen[m] >> x & 1) == 1) {
                        if (left == 0) {
                            return 10 * m + x;
                        }
                        left--;
                    }
                }
            }
            return NONE;
        }

        /** Comings repeat from the first one on, so two rounds show every wait that there will be. */
        boolean nothingEverFalls() {
            begin();
            int came = 0;
            for (int k = 0; k < 2 * length; k++) {
                goOn();
                if (until[thing] < comes) {
                    return false;
                }
                came |= 1 << thing;
                nailed();
            }
            return came == town.all();
        }

        int whereAt(int t) {
            begin();
            for (int k = 0; k <= MOST_MINUTES; k++) {
                goOn();
                if (t < comes) {
                    return NONE;
                }
                if (t < leaves) {
                    return thing;
                }
            }
            return NONE;
        }
    }

    /**
     * The orders of a set of things, one after another as rows. The nail comes to each thing once a
     * period, so falls are counted by a division, without a walk for each order.
     */
    static final class Orders {
        // How many orders there are of 0 .. 6 things.
        private static final int[] ORDERS_OF = {1, 1, 2, 6, 24, 120, 720};

        private final Street town;
        private final int[] row = new int[MOST_THINGS];
        private int length = 0;
        // When the nail comes to each thing for the first time.
        private final int[] comes = new int[MOST_THINGS];
        private int period = 0;
        private final int[] kept = new int[MOST_THINGS];

        Orders(Street town) {
            this.town = town;
        }

        int leastHarm(int set, int from, int t) {
            int many = begin(set);
            int least = BEYOND;
            for (int k = 0; k < many && least > 0; k++) {
                time(from);
                int done = harmBelow(t, least);
                if (done < least) {
                    least = done;
                    keep();
                }
                goOn();
            }
            return least;
        }

        /** Counted no further than enough. */
        int countSafe(int set, int enough) {
            int many = begin(set);
            int sum = 0;
            for (int k = 0; k < many && sum < enough; k++) {
                time(town.smithyPlace);
                if (nothingEverFalls()) {
                    sum++;
                }
                goOn();
            }
            return sum;
        }

        int countFitting(int set, Readings seen) {
            int many = begin(set);
            int sum = 0;
            for (int k = 0; k < many; k++) {
                time(town.smithyPlace);
                if (allAreSo(seen)) {
                    sum++;
                    if (sum == 1) {
                        keep();
                    }
                }
                goOn();
            }
            return sum;
        }

        int keptAt(int q) {
            return q >= 0 && q < length ? kept[q] : NONE;
        }

        private void keep() {
            for (int k = 0; k < length; k++) {
                kept[k] = row[k];
            }
        }

        /** The first order of a set; answers how many there are. */
        private int begin(int set) {
            length = 0;
            for (int x = 0; x < town.count; x++) {
                if ((set >> x & 1) == 1) {
                    row[length] = x;
                    length++;
                }
            }
            return ORDERS_OF[length];
        }

        /** The next order as a row: what is behind the last rise falls, so it is turned to rise. */
        private void goOn() {
            int low = length - 2;
            while (low >= 0 && row[low] > row[low + 1]) {
                low--;
            }
            if (low < 0) {
                return;
            }
            int high = length - 1;
            while (high > low && row[high] < row[low]) {
                high--;
            }
            swap(low, high);
            int left = low + 1;
            int right = length - 1;
            while (left < right) {
                swap(left, right);
                left++;
                right--;
            }
        }

        private void swap(int a, int b) {
            int was = row[a];
            row[a] = row[b];
            row[b] = was;
        }

        private void time(int from) {
            period = 0;
            if (length == 0) {
                return;
            }
            int minute = 0;
            int at = from;
            for (int k = 0; k < length; k++) {
                int x = row[k];
                minute += Math.abs(town.places[x] - at);
                comes[x] = minute;
                minute += town.stays[x];
                at = town.places[x];
            }
            int first = row[0];
            period = minute + Math.abs(town.places[first] - at) - comes[first];
        }

        /** Summed up no further than enough: by then the order is not the best. */
        private int harmBelow(int t, int enough) {
            int sum = 0;
            for (int k = 0; k < length && sum < enough; k++) {
                sum += fallsBelow(row[k], t) * town.harms[row[k]];
            }
            return sum;
        }

        private int fallsBelow(int x, int t) {
            int holds = town.holds[x];
            int falls = holds < comes[x] && holds < t ? 1 : 0;
            int lasts = town.stays[x] + holds;
            int next = comes[x] + lasts;
            if (period > 0 && period > lasts && next < t) {
                falls += 1 + (t - 1 - next) / period;
            }
            return falls;
        }

        private boolean nothingEverFalls() {
            for (int k = 0; k < length; k++) {
                int x = row[k];
                int holds = town.holds[x];
                if (holds < comes[x] || town.stays[x] + holds < period) {
                    return false;
                }
            }
            return true;
        }

        private boolean allAreSo(Readings seen) {
            for (int k = 0; k < seen.count; k++) {
                if (isUp(seen.things[k], seen.minutes[k]) != seen.ups[k]) {
                    return false;
                }
            }
            return true;
        }

        private boolean isUp(int x, int minute) {
            int since = minute - comes[x];
            if (since < 0) {
                return minute < town.holds[x];
            }
            return period > 0 && since % period < town.stays[x] + town.holds[x];
        }
    }
}
