/** Promises 15 to 20: keepers. */
public final class KeeperTests {
    private static final String FOUR = SeeTests.FOUR;

    public static void main(String[] args) {
        ring();
        reach();
        keeping();
        keepingOfSeveral();
        trade();
        first();
        found();
        foundRefuses();
        Desk.end();
    }

    private static void ring() {
        SandKeepers x = Desk.seen(FOUR);
        int[] due = {2, 2, -9, -9, -1};
        for (int house = 0; house < 5; house++) {
            Desk.due("ring " + house, x.ring(house), due[house]);
        }
        Desk.due("ring -1", x.ring(-1), -1);
        x.give(2, 2);
        Desk.due("ring of one's own KEEPER", x.ring(2), 1);
        SandKeepers six = Desk.seen("s6;p10001;p10002;p10003;p10004;p10005;p10000");
        for (int house = 0; house < 6; house++) {
            Desk.due("ring of 6", six.ring(house), 6);
        }
    }

    private static void reach() {
        SandKeepers x = Desk.seen(FOUR);
        int[][] due = {{2, 1, 2, 3}, {1, 2, 1, 2}, {-9, -9, -9, 1}, {-9, -9, -9, -9}};
        for (int from = 0; from < 4; from++) {
            for (int to = 0; to < 4; to++) {
                Desk.due("reach " + from + " " + to, x.reach(from, to), due[from][to]);
            }
        }
        Desk.due("reach 4", x.reach(4, 0), -1);
        Desk.due("reach -1", x.reach(-1, 0), -1);
        Desk.due("reach to 4", x.reach(0, 4), -1);
        Desk.due("reach to -1", x.reach(0, -1), -1);
        SandKeepers six = Desk.seen("s6;p10001;p10002;p10003;p10004;p10005;p10000");
        Desk.due("reach of 5", six.reach(5, 0), 5);
        Desk.due("reach of 1", six.reach(0, 5), 1);
    }

    private static void keeping() {
        SandKeepers none = new SandKeepers();
        Desk.due("keeping without a SEE", none.keeping(-1), -3);
        Desk.due("OUTSIDE ahead of STATE", none.keeping(6), -2);
        Desk.due("OUTSIDE ahead of STATE", none.keeping(-2), -2);
        SandKeepers x = Desk.seen(FOUR);
        int[] due = {109, 1, 0, 3, 2, -9, -9};
        for (int k = -1; k < 6; k++) {
            Desk.due("keeping " + k, x.keeping(k), due[k + 1]);
        }
        Desk.due("keeping -2", x.keeping(-2), -2);
        Desk.due("keeping 6", x.keeping(6), -2);
        Desk.due("nothing is changed", x.ofGlass(2, 4), 1);
        SandKeepers two = Desk.seen("s2;p10000;p10031");
        Desk.due("2 have one way", two.keeping(0), 1);
        Desk.due("2 have one way", two.keeping(1), 0);
        Desk.due("LIVES of it", two.keeping(-1), 4 + 99);
    }

    /** Of several the first as a row, and the last GLASS is not left its own HOUSE. */
    private static void keepingOfSeveral() {
        SandKeepers three = Desk.seen("s3;p10100;p10101;p10102");
        Desk.due("first of several", three.keeping(0), 1);
        Desk.due("no way but this", three.keeping(1), 2);
        Desk.due("and this", three.keeping(2), 0);
        Desk.due("LIVES", three.keeping(-1), 30);
        three.warm(1, 3);
        // 2 with HOUSE 1 lives 3 YEARS, 0 with HOUSE 1 the same: the first row again.
        Desk.due("still the first", three.keeping(0), 1);
        three.chafe(2, 0);
        // 2 0 1: 10 + 10 + 4 (rate 3); 1 2 0: 3 + 10 + 99.
        Desk.due("LIVES with 2 in a cold HOUSE", three.keeping(-1), 112);
        three.chafe(2, 9);
        // 1 2 0: 3 + 10 + 2; 2 0 1: 10 + 10 + 1.
        Desk.due("the other row", three.keeping(0), 2);
        Desk.due("its LIVES", three.keeping(-1), 21);
        three.go(1);
        three.lay(2);
        // SAND 9, 6, 1: 2 0 1: 9 + 6 + 99.
        Desk.due("with a STIFF one", three.keeping(-1), 114);
        three.lay(0);
        three.go(2);
        Desk.due("with one not ALIVE", three.keeping(-1), 99 + 99);
        Desk.due("of several the first again", three.keeping(0), 1);
    }

    private static void trade() {
        SandKeepers none = new SandKeepers();
        Desk.due("trade without a SEE", none.trade(0), -3);
        Desk.due("OUTSIDE ahead of STATE", none.trade(3), -2);
        SandKeepers x = Desk.seen(FOUR);
        Desk.due("trade 0", x.trade(0), -9);
        Desk.due("trade 1", x.trade(1), -9);
        Desk.due("trade 2", x.trade(2), -9);
        Desk.due("trade 3", x.trade(3), -2);
        Desk.due("trade -1", x.trade(-1), -2);
        // 0 at NECK 0 in a HOUSE with HEAT 3, 1 and 2 at NECK 9 in ones with HEAT 0.
        SandKeepers y = Desk.seen("s4;p90033;p90901;p90901;p90031");
        // 0: 30, 1: 10, 2: 10, 3: 99. Exchanging 0 and 1, or 0 and 2: 99 and 8.
        Desk.due("how much more", y.trade(0), 99 + 8 - 40);
        Desk.due("the lesser one, of several the least", y.trade(1), 0);
        Desk.due("the greater one, of several the least", y.trade(2), 1);
        y.chafe(1, 0);
        Desk.due("the only one", y.trade(2), 2);
        y.chafe(2, 0);
        Desk.due("none more", y.trade(0), -9);
        SandKeepers z = Desk.seen("s3;p50201;p09130;p70002");
        // 0: RATE 5, 10 YEARS; 1: RATE 1, 9; 2: 99. 0 with HEAT 0: 25; 1 with HEAT 3: 3; 2 with HEAT 3: 24.
        Desk.due("9 more", z.trade(0), 25 + 3 - 19);
        Desk.due("of 0", z.trade(1), 0);
        Desk.due("and 1", z.trade(2), 1);
        SandKeepers w = Desk.seen("s3;p50231;p09130;p70002");
        w.warm(0, 0);
        w.warm(1, 1);
        // 0 by 1: RATE 3, 17; by 0: 2, 25. 1 by 0: RATE 1, 9; by 1: 2, 5. 2 by 2: 99; by 1: 70.
        Desk.due("4 more", w.trade(0), 4);
        Desk.due("of 0", w.trade(1), 0);
        Desk.due("and 1", w.trade(2), 1);
        Desk.due("nothing is changed", w.ofGlass(0, 4), 1);
        SandKeepers one = Desk.seen("s2;p10110;p12221");
        one.warm(0, 1);
        // 0: RATE 2, 5; 1: RATE 4, 3. Exchanged: RATE 3, 4 and 3, 4.
        Desk.due("as many together", one.trade(0), -9);
        one.chafe(0, 2);
        // 0: RATE 3, 4; 1: 4, 3. Exchanged: RATE 4, 3 and 3, 4.
        Desk.due("as many together", one.trade(0), -9);
        one.chafe(0, 9);
        // 0: RATE 10, 1; 1: 4, 3. Exchanged: RATE 11, 1 and 3, 4.
        Desk.due("1 more", one.trade(0), 1);
        Desk.due("of 0", one.trade(1), 0);
        Desk.due("and 1", one.trade(2), 1);
    }

    private static void first() {
        SandKeepers none = new SandKeepers();
        Desk.due("first without a SEE", none.first(0), -3);
        Desk.due("OUTSIDE ahead of STATE", none.first(2), -2);
        SandKeepers x = Desk.seen(FOUR);
        Desk.due("of several the least", x.first(0), 0);
        Desk.due("its LIFE", x.first(1), 3);
        Desk.due("first 2", x.first(2), -2);
        Desk.due("first -1", x.first(-1), -2);
        x.lay(0);
        Desk.due("a STIFF one is not it", x.first(0), 2);
        x.go(3);
        Desk.due("nor one not ALIVE", x.first(0), 1);
        Desk.due("LIFE of it", x.first(1), 1);
        x.go(1);
        Desk.due("NONE", x.first(0), -9);
        Desk.due("NONE", x.first(1), -9);
        SandKeepers y = Desk.seen("s2;p99100;p99100");
        Desk.due("99 is not below 99", y.first(0), -9);
        y.go(1);
        Desk.due("98 is", y.first(1), 98);
    }

    private static void found() {
        SandKeepers x = Desk.seen(FOUR);
        Desk.due("none told", Desk.found(x), 15);
        Desk.due("9 6 3 0 0", Desk.found(x, 9, 6, 3, 0, 0), 4);
        Desk.due("9 6 3 0 -3", Desk.found(x, 9, 6, 3, 0, -3), 0);
        Desk.due("10", Desk.found(x, 10), 1);
        Desk.due("10 6 2 0", Desk.found(x, 10, 6, 2, 0), 1);
        Desk.due("30 30", Desk.found(x, 30, 30), 8);
        Desk.due("11", Desk.found(x, 11), 0);
        x.lay(2);
        Desk.due("LAID", Desk.found(x, 9, 9, 9), 4);
        x.go(1);
        Desk.due("9", Desk.found(x, 9), 6);
        Desk.due("9 6", Desk.found(x, 9, 6), 2);
        Desk.due("nothing is changed", x.many(2), 1);
        int[] forty = new int[40];
        x.go(4);
        Desk.due("40 numbers", Desk.found(x, forty), 3);
    }

    private static void foundRefuses() {
        SandKeepers none = new SandKeepers();
        Desk.due("STATE ahead of NULL", none.found(0, 0, 0, 0), -3);
        Desk.due("OUTSIDE ahead of STATE", none.found(0, 0, 0, 41), -2);
        Desk.due("UNKNOWN ahead of OUTSIDE", none.found(4, 0, 0, 41), -1);
        SandKeepers x = Desk.seen(FOUR);
        Desk.due("SHEET -1", x.found(-1, 0, 0, 0), -1);
        Desk.due("LANE 3", x.found(3, 3, 0, 0), -2);
        Desk.due("LANE -1", x.found(3, -1, 0, 0), -2);
        Desk.due("n -1", x.found(3, 0, 0, -1), -2);
        Desk.due("n 41", x.found(3, 0, 0, 41), -2);
        Desk.due("fault 0", x.fault(), 0);
        Desk.due("NULL", x.found(0, 0, -1, 1), -11);
        Desk.due("fault NULL", x.fault(), 1);
        Desk.due("CAST", x.found(3, 1, -1, 1), -12);
        Desk.due("fault CAST", x.fault(), 2);
        Desk.due("INDEX", x.found(3, 0, -1, 1), -13);
        Desk.due("fault INDEX", x.fault(), 3);
        Desk.due("i at the end", x.found(3, 0, 30, 0), 15);
        Desk.due("i beyond", x.found(3, 0, 31, 0), -13);
        Desk.due("n beyond", x.found(3, 0, 0, 31), -13);
        Desk.due("just n", x.found(3, 0, 0, 30), 0);
        Desk.due("fault 0 again", x.fault(), 0);
    }
}
