import java.util.ArrayList;
import java.util.List;
import java.util.function.Supplier;
import java.util.function.ToLongFunction;

/**
 * REFUSALS and FAULTS of each call, each one and each pair of which the first is due; what they do to fault(), and
 * that they change nothing else. So, too, what only asks. Each is asked of an object of its own, for the document
 * promises nothing behind 512 calls.
 */
public final class RefusalTests {
    private static final int MOST = Integer.MAX_VALUE, LEAST = Integer.MIN_VALUE;
    private static final long LOST = Long.MIN_VALUE;
    private static final int STAYS = -1;
    private static final int[] NO_HOUSE = {-1, 4, 5, 6, MOST, LEAST};
    private static final int[] NO_SHEET = {-1, 4, MOST, LEAST};
    private static final int[] NO_LANE = {-1, 3, MOST, LEAST};
    /** SHEET 0 has 3 bytes, 1 has 44 shorts, 2 nothing, 3 the TEXT as bytes; 4 HOUSES. */
    private static final String TEXT = "s4;p10211;w12120;c09401;p30032";

    public static void main(String[] args) {
        ofHouses();
        ofActs();
        withoutASee();
        ofReadings();
        ofTexts();
        textsNotTaken();
        ofChronicles();
        ofFound();
        ofRows();
        ofCopies();
        onlyAsking();
        Desk.end();
    }

    /** Of all that an object holds something: LAID and RAISED ones, one not ALIVE, YEARS, READINGS, rows, a TRACE. */
    private static SandKeepers rich() {
        SandKeepers x = Desk.seen(TEXT);
        x.chafe(1, 2);
        x.warm(2, 1);
        x.give(0, 3);
        x.lay(3);
        x.go(3);
        x.reading(0, 1, 0);
        x.reading(2, 0, 0);
        x.tell(2);
        Desk.write(x, 0, 0, 5, -6, 7);
        x.sheet(1, 1, 44);
        x.put(1, 1, 300);
        x.put(1, 2, 1);
        x.put(1, 3, 9);
        return x;
    }

    /** All that can be seen of an object, but fault(). */
    private static String allOf(SandKeepers x) {
        StringBuilder all = new StringBuilder();
        for (int what = 0; what < 4; what++) {
            all.append(x.many(what)).append(' ');
        }
        int houses = x.many(0);
        for (int k = 0; k < houses; k++) {
            for (int what = 0; what < 8; what++) {
                all.append(x.ofGlass(k, what)).append(' ');
            }
            all.append(x.necks(k)).append(' ').append(x.kinds(k)).append(' ').append(x.keepers(k)).append(' ');
        }
        for (int k = 0; k < 4; k++) {
            for (int lane = 0; lane < 3; lane++) {
                long cell = x.cell(k, 0, lane);
                for (int i = 1; i <= 60 && cell != LOST; i++) {
                    all.append(cell).append(' ');
                    cell = x.cell(k, i, lane);
                }
                all.append(x.fault()).append(' ');
            }
        }
        return all.append(x.trace()).toString();
    }

    /** Makes a FAULT be the latest one, that the call itself can't come to, or 0. */
    private static void comeTo(SandKeepers x, int fault) {
        switch (fault) {
            case 0: x.sheet(2, 0, 0); x.lose(2); break;
            case 1: x.put(2, 0, 0); break;
            case 2: x.cell(0, 0, 1); break;
            case 3: x.put(0, -1, 0); break;
            default: x.sheet(0, 0, -1); break;
        }
        Desk.due("fault() made " + fault, x.fault(), fault);
    }

    /** fault: which one fault() tells behind the call; STAYS: the one ahead of it. */
    private static void refused(Supplier<SandKeepers> made, String call, long due, int fault,
        ToLongFunction<SandKeepers> asked) {
        SandKeepers x = made.get();
        String before = allOf(x);
        for (int ahead = 0; ahead < 5; ahead++) {
            comeTo(x, ahead);
            Desk.due(call, asked.applyAsLong(x), due);
            Desk.due(call + ", fault() behind " + ahead, x.fault(), fault == STAYS ? ahead : fault);
        }
        Desk.isTrue(call + " changes nothing", allOf(x).equals(before));
    }

    private static void refused(String call, long due, int fault, ToLongFunction<SandKeepers> asked) {
        refused(RefusalTests::rich, call, due, fault, asked);
    }

    private static void ofHouses() {
        for (int k : NO_HOUSE) {
            refused("ofGlass " + k, -1, STAYS, x -> x.ofGlass(k, 0));
            refused("ofGlass, UNKNOWN ahead of OUTSIDE, " + k, -1, STAYS, x -> x.ofGlass(k, 8));
            refused("keeps " + k, -1, STAYS, x -> x.keeps(k));
            refused("chafe " + k, -1, STAYS, x -> x.chafe(k, 0));
            refused("chafe, UNKNOWN ahead of OUTSIDE, " + k, -1, STAYS, x -> x.chafe(k, 10));
            refused("warm " + k, -1, STAYS, x -> x.warm(k, 0));
            refused("warm, UNKNOWN ahead of OUTSIDE, " + k, -1, STAYS, x -> x.warm(k, 4));
            refused("give " + k, -1, STAYS, x -> x.give(k, 0));
            refused("give to " + k, -1, STAYS, x -> x.give(0, k));
            refused("give " + k + " to it", -1, STAYS, x -> x.give(k, k));
            refused("life " + k, -1, STAYS, x -> x.life(k));
            refused("ring " + k, -1, STAYS, x -> x.ring(k));
            refused("reach from " + k, -1, STAYS, x -> x.reach(k, 0));
            refused("reach to " + k, -1, STAYS, x -> x.reach(0, k));
            refused("necks " + k, -1, STAYS, x -> x.necks(k));
            refused("kinds " + k, -1, STAYS, x -> x.kinds(k));
            refused("keepers " + k, -1, STAYS, x -> x.keepers(k));
            refused("odds " + k, LOST, STAYS, x -> x.odds(k, 0, 0));
            refused("tell " + k, -1, STAYS, x -> x.tell(k));
            refused("dust " + k, -1, STAYS, x -> x.dust(k));
            refused("as " + k, -1, 0, x -> x.as(k, 0));
            refused("as, UNKNOWN ahead of OUTSIDE, " + k, -1, 0, x -> x.as(k, 3));
        }
        outside("ofGlass", 7, v -> x -> x.ofGlass(3, v));
        outside("chafe", 9, v -> x -> x.chafe(3, v));
        outside("warm", 3, v -> x -> x.warm(3, v));
        outside("alive", 1, v -> x -> x.alive(v));
        outside("trade", 2, v -> x -> x.trade(v));
        outside("first", 1, v -> x -> x.first(v));
        outside("many", 3, v -> x -> x.many(v));
        refused("keeping -2", -2, STAYS, x -> x.keeping(-2));
        outside("keeping", 5, v -> x -> x.keeping(v == -1 ? -2 : v));
        for (int v : new int[] {-1, 3, MOST, LEAST}) {
            refused("as kind " + v, -2, 0, x -> x.as(0, v));
        }
        refused("as CRACKED, a PLAIN one", -12, 2, x -> x.as(0, 2));
        refused("as CRACKED, a WIDE one", -12, 2, x -> x.as(1, 2));
        refused("as WIDE, a PLAIN one", -12, 2, x -> x.as(3, 1));
        for (int v : new int[] {-1, 100, MOST, LEAST}) {
            refused("odds y " + v, LOST, STAYS, x -> x.odds(0, v, 0));
        }
        for (int v : new int[] {-1, 2, MOST, LEAST}) {
            refused("odds which " + v, LOST, STAYS, x -> x.odds(0, 0, v));
        }
    }

    private interface Asking {
        ToLongFunction<SandKeepers> of(int v);
    }

    /** Just beyond 0 .. most, and far. */
    private static void outside(String call, int most, Asking asking) {
        for (int v : new int[] {-1, most + 1, MOST, LEAST}) {
            refused(call + " " + v, -2, STAYS, asking.of(v));
        }
    }

    private static void ofActs() {
        for (int k : NO_HOUSE) {
            refused("lay " + k, -1, STAYS, x -> x.lay(k));
            refused("raise " + k, -1, STAYS, x -> x.raise(k));
            refused("turn " + k, -1, STAYS, x -> x.turn(k));
        }
        // rich: 2 is not ALIVE and keeps 3, which is LAID; 3 keeps 0; 0 keeps 1.
        refused("lay by a STIFF KEEPER", -3, STAYS, x -> x.lay(0));
        refused("turn by a STIFF KEEPER", -3, STAYS, x -> x.turn(0));
        refused("lay of one not ALIVE", -3, STAYS, x -> x.lay(2));
        refused("turn of one not ALIVE", -3, STAYS, x -> x.turn(2));
        refused("raise of one not ALIVE", -3, STAYS, x -> x.raise(2));
        refused("raise by a KEEPER not ALIVE", -3, STAYS, x -> x.raise(3));
        refused("raise one not LAID", -3, STAYS, x -> x.raise(1));
        refused(() -> given(1, 2), "lay by a KEEPER not ALIVE", -3, STAYS, x -> x.lay(1));
        refused(() -> given(1, 2), "turn by a KEEPER not ALIVE", -3, STAYS, x -> x.turn(1));
        refused(() -> given(3, 1), "lay a LAID one by a HAND", -3, STAYS, x -> x.lay(3));
        refused(() -> given(3, 1), "turn a LAID one by a HAND", -3, STAYS, x -> x.turn(3));
        refused(() -> given(3, 3), "raise one's own", -3, STAYS, x -> x.raise(3));
        refused(() -> given(3, 3), "turn one's own LAID one", -3, STAYS, x -> x.turn(3));
        refused(() -> given(2, 2), "lay one's own, not ALIVE", -3, STAYS, x -> x.lay(2));
        for (int n : new int[] {0, -1, 100, MOST, LEAST}) {
            refused("go " + n, -2, STAYS, x -> x.go(n));
        }
        refused(() -> inYear(993), "go 7 to 1000", -3, STAYS, x -> x.go(7));
        refused(() -> inYear(993), "go 99 to 1092", -3, STAYS, x -> x.go(99));
        refused(() -> inYear(993), "go 100, OUTSIDE ahead of STATE", -2, STAYS, x -> x.go(100));
        refused(() -> inYear(999), "go 1 to 1000", -3, STAYS, x -> x.go(1));
    }

    private static SandKeepers given(int k, int house) {
        SandKeepers x = rich();
        x.give(k, house);
        return x;
    }

    private static SandKeepers inYear(int year) {
        SandKeepers x = rich();
        while (x.many(2) < year) {
            x.go(Math.min(99, year - x.many(2)));
        }
        return x;
    }

    private static SandKeepers blank() {
        SandKeepers x = new SandKeepers();
        Desk.write(x, 0, 0, 5, -6, 7);
        return x;
    }

    private static void withoutASee() {
        for (int k : new int[] {0, 1, 5, -1}) {
            refused(RefusalTests::blank, "ofGlass " + k, -1, STAYS, x -> x.ofGlass(k, 9));
            refused(RefusalTests::blank, "keeps " + k, -1, STAYS, x -> x.keeps(k));
            refused(RefusalTests::blank, "chafe " + k, -1, STAYS, x -> x.chafe(k, 10));
            refused(RefusalTests::blank, "warm " + k, -1, STAYS, x -> x.warm(k, 4));
            refused(RefusalTests::blank, "give " + k, -1, STAYS, x -> x.give(k, k));
            refused(RefusalTests::blank, "lay " + k, -1, STAYS, x -> x.lay(k));
            refused(RefusalTests::blank, "raise " + k, -1, STAYS, x -> x.raise(k));
            refused(RefusalTests::blank, "turn " + k, -1, STAYS, x -> x.turn(k));
            refused(RefusalTests::blank, "life " + k, -1, STAYS, x -> x.life(k));
            refused(RefusalTests::blank, "ring " + k, -1, STAYS, x -> x.ring(k));
            refused(RefusalTests::blank, "reach " + k, -1, STAYS, x -> x.reach(k, k));
            refused(RefusalTests::blank, "reading " + k, -1, STAYS, x -> x.reading(k, 100, 100));
            refused(RefusalTests::blank, "necks " + k, -1, STAYS, x -> x.necks(k));
            refused(RefusalTests::blank, "kinds " + k, -1, STAYS, x -> x.kinds(k));
            refused(RefusalTests::blank, "keepers " + k, -1, STAYS, x -> x.keepers(k));
            refused(RefusalTests::blank, "odds " + k, LOST, STAYS, x -> x.odds(k, 0, 0));
            refused(RefusalTests::blank, "tell " + k, -1, STAYS, x -> x.tell(k));
            refused(RefusalTests::blank, "dust " + k, -1, STAYS, x -> x.dust(k));
            refused(RefusalTests::blank, "as " + k, -1, 0, x -> x.as(k, 3));
        }
        for (int v : new int[] {0, 1}) {
            refused(RefusalTests::blank, "alive " + v, -3, STAYS, x -> x.alive(v));
            refused(RefusalTests::blank, "trade " + v, -3, STAYS, x -> x.trade(v));
            refused(RefusalTests::blank, "first " + v, -3, STAYS, x -> x.first(v));
            refused(RefusalTests::blank, "keeping " + v, -3, STAYS, x -> x.keeping(v));
            refused(RefusalTests::blank, "go " + v, -3, STAYS, x -> x.go(v));
        }
        refused(RefusalTests::blank, "keeping -1", -3, STAYS, x -> x.keeping(-1));
        refused(RefusalTests::blank, "keeping 5", -3, STAYS, x -> x.keeping(5));
        refused(RefusalTests::blank, "STATE ahead of OUTSIDE: alive", -3, STAYS, x -> x.alive(2));
        refused(RefusalTests::blank, "STATE ahead of OUTSIDE: go", -3, STAYS, x -> x.go(100));
        refused(RefusalTests::blank, "OUTSIDE ahead of STATE: trade", -2, STAYS, x -> x.trade(3));
        refused(RefusalTests::blank, "OUTSIDE ahead of STATE: first", -2, STAYS, x -> x.first(2));
        refused(RefusalTests::blank, "OUTSIDE ahead of STATE: keeping", -2, STAYS, x -> x.keeping(6));
        refused(RefusalTests::blank, "OUTSIDE ahead of STATE: keeping", -2, STAYS, x -> x.keeping(-2));
        refused(RefusalTests::blank, "many 4", -2, STAYS, x -> x.many(4));
        refused(RefusalTests::blank, "back 1", -2, STAYS, x -> x.back(1));
        refused(RefusalTests::blank, "STATE ahead of CAST: chronicle", -3, 0, x -> x.chronicle(0, 1, 0, 1, 0));
        refused(RefusalTests::blank, "STATE ahead of NULL: chronicle", -3, 0, x -> x.chronicle(2, 1, 0, 1, 0));
        refused(RefusalTests::blank, "STATE ahead of INDEX: chronicle", -3, 0, x -> x.chronicle(0, 0, 9, 1, 0));
        refused(RefusalTests::blank, "STATE ahead of a pair: chronicle", -3, 0, x -> x.chronicle(0, 0, 0, 1, 0));
        refused(RefusalTests::blank, "OUTSIDE ahead of STATE: chronicle", -2, 0, x -> x.chronicle(0, 0, 0, 21, 0));
        refused(RefusalTests::blank, "STATE ahead of CAST: found", -3, 0, x -> x.found(0, 1, 0, 1));
        refused(RefusalTests::blank, "STATE ahead of NULL: found", -3, 0, x -> x.found(2, 1, 0, 1));
        refused(RefusalTests::blank, "STATE ahead of INDEX: found", -3, 0, x -> x.found(0, 0, 9, 1));
        refused(RefusalTests::blank, "OUTSIDE ahead of STATE: found", -2, 0, x -> x.found(0, 0, 0, 41));
    }

    private static void ofReadings() {
        for (int k : NO_HOUSE) {
            refused("reading " + k, -1, STAYS, x -> x.reading(k, 0, 0));
            refused("reading, UNKNOWN ahead of OUTSIDE, " + k, -1, STAYS, x -> x.reading(k, 100, 0));
        }
        outside("reading y", 99, v -> x -> x.reading(0, v, 0));
        outside("reading v", 99, v -> x -> x.reading(0, 0, v));
        outside("back of 2", 2, v -> x -> x.back(v));
        refused(RefusalTests::full, "FULL", -4, STAYS, x -> x.reading(0, 0, 0));
        refused(RefusalTests::full, "UNKNOWN ahead of FULL", -1, STAYS, x -> x.reading(4, 0, 0));
        refused(RefusalTests::full, "OUTSIDE ahead of FULL, y", -2, STAYS, x -> x.reading(0, 100, 0));
        refused(RefusalTests::full, "OUTSIDE ahead of FULL, v", -2, STAYS, x -> x.reading(0, 0, -1));
        refused(RefusalTests::full, "back 9", -2, STAYS, x -> x.back(9));
    }

    private static SandKeepers full() {
        SandKeepers x = rich();
        for (int r = 2; r < 8; r++) {
            Desk.due("its number", x.reading(3, 0, 30), r);
        }
        return x;
    }

    private static void ofTexts() {
        int size = TEXT.length();
        for (int k : NO_SHEET) {
            refused("see " + k, -1, 0, x -> x.see(k, 0, 0, 0));
            refused("see, UNKNOWN ahead of OUTSIDE, " + k, -1, 0, x -> x.see(k, 3, -1, -1));
        }
        for (int lane : NO_LANE) {
            refused("see LANE " + lane, -2, 0, x -> x.see(3, lane, 0, size));
            refused("see, OUTSIDE ahead of NULL, " + lane, -2, 0, x -> x.see(2, lane, -1, -1));
        }
        for (int lane = 0; lane < 3; lane++) {
            int as = lane;
            refused("see NULL ahead of SIZE", -11, 1, x -> x.see(2, as, 0, -1));
            refused("see NULL ahead of INDEX", -11, 1, x -> x.see(2, as, 1, 0));
            refused("see NULL of nothing", -11, 1, x -> x.see(2, as, 0, 0));
        }
        refused("see CAST as shorts", -12, 2, x -> x.see(3, 1, 0, size));
        refused("see CAST as ints", -12, 2, x -> x.see(3, 2, 0, size));
        refused("see CAST ahead of SIZE", -12, 2, x -> x.see(3, 1, 0, -1));
        refused("see CAST ahead of INDEX", -12, 2, x -> x.see(3, 2, 0, size + 1));
        for (int n : new int[] {-1, LEAST}) {
            refused("see SIZE " + n, -14, 4, x -> x.see(3, 0, 0, n));
            refused("see SIZE ahead of INDEX " + n, -14, 4, x -> x.see(3, 0, size + 1, n));
        }
        for (int[] cells : beyond(size)) {
            refused("see INDEX " + cells[0] + " " + cells[1], -13, 3, x -> x.see(3, 0, cells[0], cells[1]));
        }
        refused("see nothing at the end", -100, 0, x -> x.see(3, 0, size, 0));
        refused(RefusalTests::withNoCells, "see 0 of 0 cells", -100, 0, x -> x.see(0, 0, 0, 0));
        refused(RefusalTests::withNoCells, "see 1 of 0 cells", -13, 3, x -> x.see(0, 0, 0, 1));
        refused(RefusalTests::withNoCells, "see 0 of 0 cells from 1 on", -13, 3, x -> x.see(0, 0, 1, 0));
    }

    private static SandKeepers withNoCells() {
        SandKeepers x = rich();
        x.sheet(0, 0, 0);
        return x;
    }

    /** Places and numbers of cells, none below 0, that a row of size cells has not. */
    private static List<int[]> beyond(int size) {
        List<int[]> all = new ArrayList<>();
        for (int i : new int[] {-1, LEAST, size + 1, MOST}) {
            all.add(new int[] {i, 0});
            all.add(new int[] {i, 1});
            all.add(new int[] {i, 2});
        }
        all.add(new int[] {0, size + 1});
        all.add(new int[] {1, size});
        all.add(new int[] {size, 1});
        return all;
    }

    /** Whatever place of a TEXT is at fault, nothing of it is taken. */
    private static void textsNotTaken() {
        String other = "s2;w99931;c01010";
        int size = other.length();
        for (int place = 0; place < size; place++) {
            int n = place;
            String wrong = other.substring(0, n) + "?" + other.substring(n + 1);
            refused(() -> written(other), "see that ends at " + n, -100 - n, 0, x -> x.see(1, 2, 0, n));
            refused(() -> written(wrong), "see " + wrong, -100 - n, 0, x -> x.see(1, 2, 0, size));
        }
        refused(() -> written(other + ";"), "see with more", -100 - size, 0, x -> x.see(1, 2, 0, size + 1));
        Desk.due("see with no more", written(other + ";").see(1, 2, 0, size), 2);
    }

    private static SandKeepers written(String text) {
        SandKeepers x = rich();
        Desk.write(x, 1, 2, Desk.codes(text));
        return x;
    }

    private static void ofChronicles() {
        for (int k : NO_SHEET) {
            refused("chronicle " + k, -1, 0, x -> x.chronicle(k, 0, 0, 0, 0));
            refused("chronicle, UNKNOWN ahead of OUTSIDE, " + k, -1, 0, x -> x.chronicle(k, 3, 0, 21, 4));
        }
        for (int lane : NO_LANE) {
            refused("chronicle LANE " + lane, -2, 0, x -> x.chronicle(1, lane, 0, 0, 0));
            refused("chronicle, OUTSIDE ahead of NULL, " + lane, -2, 0, x -> x.chronicle(2, lane, 0, 0, 0));
        }
        for (int n : new int[] {-1, 21, 22, MOST, LEAST, 1 << 30, 1 << 31}) {
            refused("chronicle n " + n, -2, 0, x -> x.chronicle(1, 1, 0, n, 0));
            refused("chronicle n, OUTSIDE ahead of CAST " + n, -2, 0, x -> x.chronicle(1, 0, 99, n, 0));
        }
        for (int what : new int[] {-1, 4, 5, 9, 16, 19, 26, 30, MOST, LEAST}) {
            refused("chronicle what " + what, -2, 0, x -> x.chronicle(1, 1, 0, 0, what));
            refused("chronicle what, OUTSIDE ahead of NULL " + what, -2, 0, x -> x.chronicle(2, 1, 0, 0, what));
        }
        refused("chronicle NULL ahead of INDEX", -11, 1, x -> x.chronicle(2, 1, -1, 0, 0));
        refused("chronicle CAST", -12, 2, x -> x.chronicle(1, 2, 0, 0, 0));
        refused("chronicle CAST ahead of INDEX", -12, 2, x -> x.chronicle(1, 0, 45, 0, 0));
        for (int[] cells : beyond(44)) {
            int n = (cells[1] + 1) / 2;
            if (n <= 20) {
                refused("chronicle INDEX " + cells[0] + " " + n, -13, 3, x -> x.chronicle(1, 1, cells[0], n, 0));
            }
        }
        refused("chronicle INDEX, one cell short", -13, 3, x -> x.chronicle(1, 1, 5, 20, 0));
        refused("chronicle INDEX, one cell short", -13, 3, x -> x.chronicle(1, 1, 43, 1, 0));
        int[] noAct = {0, 3};
        refused(() -> told(noAct), "chronicle INDEX ahead of a pair", -13, 3, x -> x.chronicle(1, 2, 0, 2, 0));
        refused(() -> told(noAct), "chronicle of that pair", -2, 0, x -> x.chronicle(1, 2, 0, 1, 0));
        pairs();
    }

    private static SandKeepers told(int[] pairs) {
        SandKeepers x = rich();
        Desk.write(x, 1, 2, pairs);
        return x;
    }

    /** A pair that is the first refused one of 20, at places 0, 9, 19. */
    private static void pair(long due, int one, int act) {
        for (int at : new int[] {0, 9, 19}) {
            // Ahead of it there are acts that can't be: they are not come to. Behind it: what would be OUTSIDE.
            int[] pairs = new int[40];
            for (int p = 0; p < 20; p++) {
                pairs[2 * p] = p < at ? 2 : p > at ? 4 : one;
                pairs[2 * p + 1] = p < at ? 0 : p > at ? 3 : act;
            }
            for (int what : new int[] {0, 1, 2, 3, 10, 15, 20, 25}) {
                String call = "chronicle " + what + " of pair " + at + ": " + one + " " + act;
                refused(() -> told(pairs), call, due, 0, x -> x.chronicle(1, 2, 0, at + 1, what));
                refused(() -> told(pairs), call + " of 20", due, 0, x -> x.chronicle(1, 2, 0, 20, what));
            }
        }
    }

    private static void pairs() {
        for (int act : new int[] {-1, 3, 4, 8, 10, MOST, LEAST, 256, 256 + 9}) {
            pair(-2, 0, act);
            pair(-2, 4, act);
        }
        for (int years : new int[] {-1, 10, MOST, LEAST}) {
            pair(-2, years, 9);
        }
        for (int k : NO_HOUSE) {
            for (int act = 0; act < 3; act++) {
                pair(-1, k, act);
            }
        }
    }

    private static void ofFound() {
        for (int k : NO_SHEET) {
            refused("found " + k, -1, 0, x -> x.found(k, 0, 0, 0));
            refused("found, UNKNOWN ahead of OUTSIDE, " + k, -1, 0, x -> x.found(k, 3, 0, 41));
        }
        for (int lane : NO_LANE) {
            refused("found LANE " + lane, -2, 0, x -> x.found(1, lane, 0, 0));
            refused("found, OUTSIDE ahead of NULL, " + lane, -2, 0, x -> x.found(2, lane, 0, 0));
        }
        for (int n : new int[] {-1, 41, MOST, LEAST}) {
            refused("found n " + n, -2, 0, x -> x.found(1, 1, 0, n));
            refused("found n, OUTSIDE ahead of CAST " + n, -2, 0, x -> x.found(1, 0, 0, n));
        }
        refused("found NULL ahead of INDEX", -11, 1, x -> x.found(2, 1, -1, 0));
        refused("found CAST", -12, 2, x -> x.found(1, 2, 0, 0));
        refused("found CAST ahead of INDEX", -12, 2, x -> x.found(1, 0, 45, 0));
        for (int[] cells : beyond(44)) {
            if (cells[1] <= 40) {
                refused("found INDEX " + cells[0] + " " + cells[1], -13, 3, x -> x.found(1, 1, cells[0], cells[1]));
            }
        }
        refused("found INDEX, one cell short", -13, 3, x -> x.found(1, 1, 5, 40));
    }

    private static void ofRows() {
        for (int k : NO_SHEET) {
            refused("sheet " + k, -1, 0, x -> x.sheet(k, 0, 1));
            refused("sheet, UNKNOWN ahead of OUTSIDE, " + k, -1, 0, x -> x.sheet(k, 3, 61));
            refused("sheet, UNKNOWN ahead of SIZE, " + k, -1, 0, x -> x.sheet(k, 0, -1));
            refused("lose " + k, -1, STAYS, x -> x.lose(k));
            refused("put " + k, -1, 0, x -> x.put(k, 0, 1));
            refused("put, UNKNOWN ahead of INDEX, " + k, -1, 0, x -> x.put(k, -1, 1));
            refused("cell " + k, LOST, 0, x -> x.cell(k, 0, 0));
            refused("cell, UNKNOWN ahead of INDEX, " + k, LOST, 0, x -> x.cell(k, -1, 0));
        }
        for (int lane : NO_LANE) {
            refused("sheet LANE " + lane, -2, 0, x -> x.sheet(0, lane, 1));
            refused("sheet, OUTSIDE ahead of SIZE, " + lane, -2, 0, x -> x.sheet(0, lane, -1));
            refused("cell LANE " + lane, LOST, 0, x -> x.cell(0, 0, lane));
            refused("cell, OUTSIDE ahead of NULL, " + lane, LOST, 0, x -> x.cell(2, 0, lane));
        }
        for (int n : new int[] {61, MOST}) {
            refused("sheet n " + n, -2, 0, x -> x.sheet(0, 0, n));
        }
        for (int n : new int[] {-1, LEAST}) {
            refused("sheet SIZE " + n, -14, 4, x -> x.sheet(0, 0, n));
            refused("sheet SIZE " + n + " on nothing", -14, 4, x -> x.sheet(2, 2, n));
        }
        refused("lose nothing", 0, STAYS, x -> x.lose(2));
        for (int i : new int[] {-1, 0, LEAST}) {
            refused("put NULL ahead of INDEX", -11, 1, x -> x.put(2, i, 1));
            refused("cell NULL ahead of INDEX", LOST, 1, x -> x.cell(2, i, 2));
        }
        for (int i : new int[] {-1, 3, 60, MOST, LEAST}) {
            refused("put INDEX " + i, -13, 3, x -> x.put(0, i, 1));
            refused("cell INDEX " + i, LOST, 3, x -> x.cell(0, i, 0));
            refused("cell CAST ahead of INDEX " + i, LOST, 2, x -> x.cell(0, i, 1));
        }
        refused("cell CAST", LOST, 2, x -> x.cell(0, 0, 2));
        refused(RefusalTests::withNoCells, "put on 0 cells", -13, 3, x -> x.put(0, 0, 1));
        refused(RefusalTests::withNoCells, "cell of 0 cells", LOST, 3, x -> x.cell(0, 0, 0));
    }

    private static void ofCopies() {
        for (int k : NO_SHEET) {
            refused("copy " + k, -1, 0, x -> x.copy(k, 0, 0, 0, 0));
            refused("copy to " + k, -1, 0, x -> x.copy(0, 0, k, 0, 0));
            refused("copy, UNKNOWN ahead of NULL, " + k, -1, 0, x -> x.copy(2, 0, k, 0, 0));
            refused("copy, UNKNOWN ahead of NULL, " + k, -1, 0, x -> x.copy(k, 0, 2, 0, 0));
        }
        refused("copy of nothing", -11, 1, x -> x.copy(2, -1, 0, -1, -1));
        refused("copy to nothing", -11, 1, x -> x.copy(0, -1, 2, -1, -1));
        refused("copy of nothing to it", -11, 1, x -> x.copy(2, 0, 2, 0, 0));
        refused("copy CAST", -12, 2, x -> x.copy(0, 0, 1, 0, 1));
        refused("copy CAST of no cells", -12, 2, x -> x.copy(1, 0, 0, 0, 0));
        refused("copy CAST ahead of INDEX", -12, 2, x -> x.copy(1, -1, 0, 9, -1));
        int size = TEXT.length();
        for (int n : new int[] {-1, LEAST}) {
            refused("copy n " + n, -13, 3, x -> x.copy(0, 0, 3, 0, n));
            refused("copy n " + n + " at the ends", -13, 3, x -> x.copy(0, 3, 3, size, n));
        }
        for (int[] cells : beyond(3)) {
            refused("copy of " + cells[0] + " " + cells[1], -13, 3, x -> x.copy(0, cells[0], 3, 0, cells[1]));
            refused("copy to " + cells[0] + " " + cells[1], -13, 3, x -> x.copy(3, 0, 0, cells[0], cells[1]));
            refused("copy in one, of " + cells[0] + " " + cells[1], -13, 3, x -> x.copy(0, cells[0], 0, 0, cells[1]));
        }
        refused("copy n most", -13, 3, x -> x.copy(0, 1, 3, 1, MOST));
        refused("copy none at the ends", 0, 0, x -> x.copy(0, 3, 3, size, 0));
    }

    /** What only asks changes nothing, whatever it answers; of these, too, only some set fault(). */
    private static void onlyAsking() {
        for (int k = 0; k < 4; k++) {
            int one = k;
            asked("keeps", STAYS, x -> x.keeps(one));
            asked("life", STAYS, x -> x.life(one));
            asked("ring", STAYS, x -> x.ring(one));
            asked("reach", STAYS, x -> x.reach(one, 1));
            asked("keeping", STAYS, x -> x.keeping(one - 1));
            asked("trade", STAYS, x -> x.trade(one % 3));
            asked("first", STAYS, x -> x.first(one % 2));
            asked("alive", STAYS, x -> x.alive(one % 2));
            asked("odds", STAYS, x -> x.odds(one, 2, 1));
            asked("necks", STAYS, x -> x.necks(one));
            asked("kinds", STAYS, x -> x.kinds(one));
            asked("keepers", STAYS, x -> x.keepers(one));
            asked("ofGlass", STAYS, x -> x.ofGlass(one, 5));
            asked("as", 0, x -> x.as(one, 0));
            asked("back 0", STAYS, x -> x.back(0));
            asked("chronicle", 0, x -> x.chronicle(1, 1, 2, 1, one));
            asked("chronicle, FIRST WRONG", 0, x -> x.chronicle(1, 1, 4, 1, one));
            asked("found", 0, x -> x.found(1, 1, one, 2));
        }
    }

    private static void asked(String call, int fault, ToLongFunction<SandKeepers> asked) {
        refused(call, asked.applyAsLong(rich()), fault, asked);
    }
}
