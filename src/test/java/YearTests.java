/** Promises 9 to 14: acts, years. */
public final class YearTests {
    private static final String FOUR = SeeTests.FOUR;

    public static void main(String[] args) {
        lay();
        raise();
        turn();
        acts_by_ones_own_hand();
        go();
        life();
        chronicleAnswers();
        chronicleOfSix();
        chronicleFirstWrong();
        chronicleRefuses();
        Desk.end();
    }

    private static void lay() {
        SandKeepers x = Desk.seen(FOUR);
        Desk.due("lay 4", x.lay(4), -1);
        Desk.due("lay -1", x.lay(-1), -1);
        x.go(1);
        Desk.due("lay 0", x.lay(0), 6);
        Desk.due("LAID", x.ofGlass(0, 6), 1);
        Desk.due("lay a LAID one", x.lay(0), -3);
        Desk.due("lay by a STIFF KEEPER", x.lay(1), -3);
        x.go(2);
        Desk.due("it does not run", x.ofGlass(0, 1), 6);
        Desk.due("2 is not ALIVE", x.alive(0), 11);
        Desk.due("lay of one not ALIVE", x.lay(2), -3);
        Desk.due("lay by a KEEPER not ALIVE", x.lay(3), -3);
        Desk.due("nothing LAID by these", x.alive(1), 1);
    }

    private static void raise() {
        SandKeepers x = Desk.seen(FOUR);
        Desk.due("raise 4", x.raise(4), -1);
        Desk.due("raise -1", x.raise(-1), -1);
        Desk.due("raise one not LAID", x.raise(0), -3);
        x.lay(0);
        x.go(1);
        Desk.due("raise", x.raise(0), 10);
        Desk.due("not LAID", x.ofGlass(0, 6), 0);
        Desk.due("raise again", x.raise(0), -3);
        x.go(1);
        Desk.due("it runs", x.ofGlass(0, 1), 6);
        x.lay(3);
        x.go(1);
        Desk.due("raise by a KEEPER not ALIVE", x.raise(3), -3);
        SandKeepers y = Desk.seen(FOUR);
        y.lay(3);
        y.lay(2);
        Desk.due("raise by a STIFF KEEPER", y.raise(3), -3);
        y.raise(2);
        Desk.due("raise by one RAISED", y.raise(3), 30);
    }

    private static void turn() {
        SandKeepers x = Desk.seen(FOUR);
        Desk.due("turn 4", x.turn(4), -1);
        Desk.due("turn -1", x.turn(-1), -1);
        x.go(1);
        Desk.due("turn", x.turn(0), 4);
        Desk.due("SAND turned", x.ofGlass(0, 1), 4);
        Desk.due("FULL stays", x.ofGlass(0, 7), 10);
        Desk.due("turn back", x.turn(0), 6);
        x.lay(0);
        Desk.due("turn a LAID one", x.turn(0), -3);
        Desk.due("turn by a STIFF KEEPER", x.turn(1), -3);
        Desk.due("turn a FULL one", x.turn(3), 0);
        Desk.due("no longer ALIVE", x.alive(0), 7);
        Desk.due("turn of one not ALIVE", x.turn(3), -3);
        Desk.due("SAND 0 still", x.ofGlass(3, 1), 0);
    }

    private static void acts_by_ones_own_hand() {
        SandKeepers x = Desk.seen("s2;p20100;p10101");
        x.go(1);
        Desk.due("turn one's own", x.turn(0), 1);
        Desk.due("lay one's own", x.lay(0), 1);
        Desk.due("a STIFF one can't RAISE", x.raise(0), -3);
        Desk.due("lay one's own", x.lay(1), 9);
        x.give(1, 0);
        Desk.due("nor can another STIFF one", x.raise(1), -3);
    }

    private static void go() {
        SandKeepers none = new SandKeepers();
        Desk.due("go without a SEE", none.go(0), -3);
        Desk.due("go 1 without a SEE", none.go(1), -3);
        SandKeepers x = Desk.seen(FOUR);
        Desk.due("go 0", x.go(0), -2);
        Desk.due("go -1", x.go(-1), -2);
        Desk.due("go 100", x.go(100), -2);
        Desk.due("YEAR 0 still", x.many(2), 0);
        Desk.due("go 2", x.go(2), 0);
        Desk.due("SAND 0", x.ofGlass(0, 1), 2);
        Desk.due("SAND 1", x.ofGlass(1, 1), 6);
        Desk.due("SAND 2", x.ofGlass(2, 1), 3);
        Desk.due("SAND 3", x.ofGlass(3, 1), 30);
        Desk.due("go 1", x.go(1), 2);
        Desk.due("0 is left at least", x.ofGlass(0, 1), 0);
        Desk.due("just 0", x.ofGlass(2, 1), 0);
        Desk.due("go 99", x.go(99), 1);
        Desk.due("YEAR", x.many(2), 102);
        Desk.due("go again", x.go(99), 0);
        for (int i = 0; i < 8; i++) {
            x.go(99);
        }
        Desk.due("YEAR 993", x.many(2), 993);
        Desk.due("YEAR above 999", x.go(7), -3);
        Desk.due("OUTSIDE ahead of the YEAR", x.go(100), -2);
        Desk.due("YEAR 999", x.go(6), 0);
        Desk.due("YEAR 1000", x.go(1), -3);
        Desk.due("YEAR 999 still", x.many(2), 999);
        SandKeepers far = Desk.seen(FOUR);
        for (int years = 0; years < 900; years += 90) {
            far.go(90);
        }
        Desk.due("go 99 to YEAR 999", far.go(99), 0);
        Desk.due("YEAR 999", far.many(2), 999);
        far.give(3, 3);
        Desk.due("acts can be in YEAR 999", far.lay(3), 30);
        Desk.due("LIFE in YEAR 999", far.life(3), 99);
        far.give(3, 2);
        Desk.due("a HOUSE of one not ALIVE keeps, too", far.keeps(2), 8);
        SandKeepers six = Desk.seen("s6;p20110;p20111;p20112;p20113;p20114;p05115");
        Desk.due("go of 6", six.go(3), 1);
        Desk.due("SAND of the first", six.ofGlass(0, 1), 14);
        Desk.due("SAND of the last", six.ofGlass(5, 1), 0);
    }

    private static void life() {
        SandKeepers x = Desk.seen(FOUR);
        int[] due = {3, 4, 3, 99};
        for (int k = 0; k < 4; k++) {
            Desk.due("life " + k, x.life(k), due[k]);
        }
        Desk.due("life 4", x.life(4), -1);
        Desk.due("life -1", x.life(-1), -1);
        x.lay(0);
        Desk.due("life of a STIFF one", x.life(0), 99);
        x.go(4);
        Desk.due("life of one not ALIVE", x.life(1), 0);
        x.chafe(1, 0);
        x.warm(0, 0);
        Desk.due("RATE 1 is the WIDE one's least", x.ofGlass(1, 5), 1);
        x.chafe(2, 0);
        x.warm(1, 0);
        Desk.due("RATE 0", x.ofGlass(2, 5), 0);
        Desk.due("life of one not ALIVE, at RATE 0", x.life(2), 0);
        Desk.due("odds of one not ALIVE, at RATE 0", x.odds(2, 1, 0), 0);
        SandKeepers none = Desk.seen("s3;p05000;w05000;c05000");
        Desk.due("life of a PLAIN one at RATE 0", none.life(0), 99);
        Desk.due("life of a WIDE one at RATE 1", none.life(1), 5);
        Desk.due("life of a CRACKED one at half of RATE 1", none.life(2), 99);
        none.turn(0);
        Desk.due("not ALIVE, at RATE 0", none.life(0), 0);
        SandKeepers y = Desk.seen("s2;p99100;p98100");
        Desk.due("life 99", y.life(0), 99);
        Desk.due("life 98", y.life(1), 98);
        Desk.due("go 98", y.go(98), 1);
        Desk.due("life 1", y.life(0), 1);
    }

    private static void chronicleAnswers() {
        SandKeepers x = Desk.seen(FOUR);
        // LAY 0; 2 YEARS; TURN 3 (it dies); RAISE 0; 0 YEARS; 3 YEARS; TURN 0; 1 YEAR
        int[] tale = {0, 0, 2, 9, 3, 2, 0, 1, 0, 9, 3, 9};
        Desk.due("how many ALIVE", Desk.told(x, 0, tale), 0);
        Desk.due("who is ALIVE", Desk.told(x, 3, tale), 0);
        Desk.due("no FIRST WRONG", Desk.told(x, 1, tale), -9);
        Desk.due("YEARS", Desk.told(x, 2, tale), 5);
        int[] died = {5, 4, 3, 2, -9, -9};
        for (int k = 0; k < 6; k++) {
            Desk.due("SAND of " + k, Desk.told(x, 10 + k, tale), k < 4 ? 0 : -9);
            Desk.due("died " + k, Desk.told(x, 20 + k, tale), died[k]);
        }
        int[] part = {0, 0, 2, 9, 0, 1, 1, 9};
        Desk.due("how many ALIVE then", Desk.told(x, 0, part), 3);
        Desk.due("who is ALIVE then", Desk.told(x, 3, part), 11);
        int[] sand = {6, 3, 0, 30, -9, -9};
        int[] diedThen = {-9, -9, 3, -9, -9, -9};
        for (int k = 0; k < 6; k++) {
            Desk.due("SAND of " + k, Desk.told(x, 10 + k, part), sand[k]);
            Desk.due("died " + k, Desk.told(x, 20 + k, part), diedThen[k]);
        }
        Desk.due("died by a turn in its YEAR 0", Desk.told(x, 23, 3, 2), 0);
        Desk.due("nothing is changed", x.many(2), 0);
        Desk.due("nothing is changed", x.ofGlass(0, 1), 10);
        Desk.due("nothing is changed", x.alive(1), 0);
        x.go(3);
        Desk.due("died ahead of it", Desk.told(x, 22, 1, 9), -9);
        Desk.due("died in it", Desk.told(x, 21, 9, 9), 1);
        Desk.due("no pairs", Desk.told(x, 3), 10);
        Desk.due("9 YEARS 11 times", Desk.told(x, 2, 9, 9, 9, 9, 9, 9, 9, 9, 9, 9, 9, 9, 9, 9, 9, 9, 9, 9, 9, 9, 9, 9), 99);
        SandKeepers y = Desk.seen(FOUR);
        Desk.write(y, 0, 0, 7, 7, 1, 9, 1, 2);
        Desk.due("cells from i on, as bytes", y.chronicle(0, 0, 2, 2, 11), 3);
        Desk.due("what is behind its pairs is not read", y.chronicle(0, 0, 2, 1, 11), 9);
        Desk.write(y, 0, 0, 1, 9, 7, 7);
        Desk.due("what can't be a pair is not read", y.chronicle(0, 0, 0, 1, 11), 9);
        y.sheet(1, 2, 60);
        for (int i = 21; i < 60; i += 2) {
            y.put(1, i, 9);
        }
        Desk.due("20 pairs at the end of 60 cells", y.chronicle(1, 2, 20, 20, 2), 0);
        for (int i = 20; i < 60; i += 2) {
            y.put(1, i, 9);
        }
        Desk.due("9 YEARS 20 times", y.chronicle(1, 2, 20, 20, 2), 180);
    }

    private static void chronicleOfSix() {
        SandKeepers x = Desk.seen("s6;p20110;p20111;p20112;p20113;p20114;p05115");
        int[] tale = {2, 9, 5, 0, 4, 2, 3, 9, 5, 2, 3, 9};
        Desk.due("a LAID one can't be TURNED", Desk.told(x, 1, tale), 4);
        tale[8] = 4;
        // SAND of 5: 5, 3, 1, LAID 1; of 4: 20, 18, 16, TURNED 4, 2, 0; it can't be TURNED behind 3 YEARS.
        Desk.due("nor one not ALIVE", Desk.told(x, 1, tale), 4);
        tale[8] = 3;
        Desk.due("all can be", Desk.told(x, 1, tale), -9);
        // 0, 1, 2: 20 less 8 YEARS of 2; 3: 20, 16, 10, TURNED 10, 4.
        int[] sand = {4, 4, 4, 4, 0, 1};
        int[] died = {-9, -9, -9, -9, 4, -9};
        int[] alone = {-9, -9, -9, -9, -9, 3};
        for (int k = 0; k < 6; k++) {
            Desk.due("SAND of " + k, Desk.told(x, 10 + k, tale), sand[k]);
            Desk.due("died " + k, Desk.told(x, 20 + k, tale), died[k]);
            Desk.due("died " + k + " in 9 YEARS", Desk.told(x, 20 + k, 9, 9), alone[k]);
        }
        Desk.due("who is ALIVE", Desk.told(x, 3, tale), 47);
        Desk.due("died behind YEARS in several pairs", Desk.told(x, 25, 1, 9, 0, 9, 1, 9, 1, 9), 3);
        x.go(2);
        Desk.due("counted from its first YEAR on", Desk.told(x, 25, 9, 9), 1);
        x.go(1);
        Desk.due("not ALIVE ahead of it", Desk.told(x, 25, 9, 9), -9);
    }

    private static void chronicleFirstWrong() {
        SandKeepers x = Desk.seen(FOUR);
        Desk.due("RAISE one not LAID", Desk.told(x, 1, 1, 9, 0, 1, 0, 1), 1);
        Desk.due("and of it all else", Desk.told(x, 0, 1, 9, 0, 1, 0, 1), -101);
        Desk.due("LAY a LAID one", Desk.told(x, 1, 0, 0, 0, 0), 1);
        Desk.due("TURN a LAID one", Desk.told(x, 1, 0, 0, 0, 2), 1);
        Desk.due("by a STIFF KEEPER", Desk.told(x, 1, 0, 0, 1, 2), 1);
        Desk.due("of one not ALIVE", Desk.told(x, 1, 3, 9, 2, 0), 1);
        Desk.due("by one not ALIVE", Desk.told(x, 1, 3, 9, 3, 0), 1);
        for (int what : new int[] {0, 2, 3, 10, 14, 15, 20, 24, 25}) {
            Desk.due("FIRST WRONG for " + what, Desk.told(x, what, 1, 9, 1, 9, 0, 1), -102);
        }
        for (int i = 0; i < 10; i++) {
            x.go(99);
        }
        Desk.due("9 YEARS to 999", Desk.told(x, 1, 9, 9), -9);
        Desk.due("0 YEARS at 999", Desk.told(x, 1, 9, 9, 0, 9), -9);
        Desk.due("1 YEAR above", Desk.told(x, 1, 9, 9, 1, 9), 1);
        Desk.due("YEARS above", Desk.told(x, 2, 1, 9, 9, 9), -101);
    }

    private static void chronicleRefuses() {
        SandKeepers none = new SandKeepers();
        Desk.due("STATE ahead of NULL", none.chronicle(0, 0, 0, 0, 0), -3);
        Desk.due("OUTSIDE ahead of STATE", none.chronicle(0, 0, 0, 0, 4), -2);
        Desk.due("UNKNOWN ahead of OUTSIDE", none.chronicle(4, 9, 0, 99, 99), -1);
        SandKeepers x = Desk.seen(FOUR);
        Desk.due("NULL", x.chronicle(2, 2, -1, 1, 0), -11);
        Desk.due("fault NULL", x.fault(), 1);
        x.sheet(2, 2, 44);
        Desk.due("SHEET -1", x.chronicle(-1, 0, 0, 0, 0), -1);
        Desk.due("fault 0", x.fault(), 0);
        Desk.due("LANE 3", x.chronicle(2, 3, 0, 0, 0), -2);
        Desk.due("LANE -1", x.chronicle(2, -1, 0, 0, 0), -2);
        Desk.due("n -1", x.chronicle(2, 2, 0, -1, 0), -2);
        Desk.due("n 21", x.chronicle(2, 2, 0, 21, 0), -2);
        Desk.due("n far beyond", x.chronicle(2, 2, 0, 1 << 31, 0), -2);
        for (int what : new int[] {-1, 4, 9, 16, 19, 26, Integer.MAX_VALUE, Integer.MIN_VALUE}) {
            Desk.due("what " + what, x.chronicle(2, 2, 0, 0, what), -2);
        }
        Desk.due("CAST", x.chronicle(2, 1, -1, 1, 0), -12);
        Desk.due("fault CAST", x.fault(), 2);
        Desk.due("INDEX i -1", x.chronicle(2, 2, -1, 0, 0), -13);
        Desk.due("INDEX i 45", x.chronicle(2, 2, 45, 0, 0), -13);
        Desk.due("i 44", x.chronicle(2, 2, 44, 0, 0), 4);
        Desk.due("fault 0 again", x.fault(), 0);
        Desk.due("INDEX 2 n", x.chronicle(2, 2, 5, 20, 1), -13);
        Desk.due("fault INDEX", x.fault(), 3);
        Desk.due("just 2 n", x.chronicle(2, 2, 4, 20, 1), 1);
        Desk.due("second 3", Desk.told(x, 0, 0, 3), -2);
        Desk.due("second 8", Desk.told(x, 0, 0, 8), -2);
        Desk.due("second 10", Desk.told(x, 0, 0, 10), -2);
        Desk.due("second -1", Desk.told(x, 0, 0, -1), -2);
        Desk.due("YEARS 10", Desk.told(x, 0, 10, 9), -2);
        Desk.due("YEARS -1", Desk.told(x, 0, -1, 9), -2);
        Desk.due("no GLASS 4", Desk.told(x, 0, 4, 0), -1);
        Desk.due("no GLASS -1", Desk.told(x, 0, -1, 2), -1);
        Desk.due("YEARS 4 are no GLASS", Desk.told(x, 2, 4, 9), 4);
        Desk.due("OUTSIDE ahead of UNKNOWN in a pair", Desk.told(x, 0, 4, 3), -2);
        Desk.due("pair by pair", Desk.told(x, 0, 4, 0, 0, 3), -1);
        Desk.due("pair by pair", Desk.told(x, 0, 0, 3, 4, 0), -2);
        Desk.due("pairs ahead of acts", Desk.told(x, 1, 0, 1, 4, 0), -1);
    }
}
