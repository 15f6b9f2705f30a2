/** Promises 21 to 26: what was left. */
public final class LeftTests {
    private static final String FOUR = SeeTests.FOUR;

    public static void main(String[] args) {
        reading();
        back();
        necks();
        kinds();
        keepers();
        readingsOfAll();
        readingsOfNow();
        odds();
        oddsOfSix();
        Desk.end();
    }

    private static void reading() {
        SandKeepers x = Desk.seen(FOUR);
        Desk.due("reading GLASS 4", x.reading(4, 100, 0), -1);
        Desk.due("reading GLASS -1", x.reading(-1, 0, 0), -1);
        Desk.due("y -1", x.reading(0, -1, 0), -2);
        Desk.due("y 100", x.reading(0, 100, 0), -2);
        Desk.due("v -1", x.reading(0, 0, -1), -2);
        Desk.due("v 100", x.reading(0, 0, 100), -2);
        Desk.due("none yet", x.many(3), 0);
        for (int r = 0; r < 8; r++) {
            Desk.due("its number", x.reading(r % 4, 99, 99 * (r % 2)), r);
        }
        Desk.due("FULL", x.reading(0, 0, 0), -4);
        Desk.due("OUTSIDE ahead of FULL", x.reading(0, 0, 100), -2);
        Desk.due("UNKNOWN ahead of FULL", x.reading(4, 0, 0), -1);
        Desk.due("8", x.many(3), 8);
    }

    private static void back() {
        SandKeepers x = Desk.seen(FOUR);
        x.reading(0, 0, 10);
        x.reading(1, 0, 12);
        x.reading(2, 0, 0);
        Desk.due("back -1", x.back(-1), -2);
        Desk.due("back 4", x.back(4), -2);
        Desk.due("back 0", x.back(0), 3);
        Desk.due("none fits", x.keepers(0), 0);
        Desk.due("back 1", x.back(1), 2);
        Desk.due("all fit", x.keepers(0), 15);
        Desk.due("the next number", x.reading(0, 0, 10), 2);
        Desk.due("back 3", x.back(3), 0);
        Desk.due("back 1 of none", x.back(1), -2);
    }

    private static void necks() {
        SandKeepers x = Desk.seen(FOUR);
        Desk.due("no READINGS", x.necks(0), 1023);
        x.reading(0, 1, 3);
        Desk.due("10 to 3 is RATE 7, NECK 5", x.necks(0), 1 << 5);
        x.back(1);
        x.reading(2, 2, 3);
        Desk.due("9 to 3 in 2 is half of 6 or 7, NECK 3, 4", x.necks(2), 1 << 3 | 1 << 4);
        x.back(1);
        x.reading(0, 1, 0);
        Desk.due("0 is left at least", x.necks(0), 1 << 8 | 1 << 9);
        Desk.due("NECK as it was", x.ofGlass(0, 2), 2);
        Desk.due("necks 4", x.necks(4), -1);
        Desk.due("necks -1", x.necks(-1), -1);
    }

    private static void kinds() {
        SandKeepers x = Desk.seen(FOUR);
        Desk.due("no READINGS", x.kinds(2), 7);
        x.reading(0, 1, 5);
        Desk.due("RATE 5 is WIDE", x.kinds(0), 2);
        x.back(1);
        x.reading(0, 1, 8);
        Desk.due("RATE 2 is CRACKED", x.kinds(0), 4);
        x.back(1);
        x.reading(0, 3, 0);
        Desk.due("PLAIN or WIDE", x.kinds(0), 3);
        Desk.due("kind as it was", x.ofGlass(0, 0), 0);
        Desk.due("kinds 4", x.kinds(4), -1);
        Desk.due("kinds -1", x.kinds(-1), -1);
    }

    private static void keepers() {
        SandKeepers x = Desk.seen(FOUR);
        Desk.due("no READINGS", x.keepers(0), 15);
        x.reading(0, 1, 7);
        Desk.due("RATE 3 is HEAT 1, its own HOUSE", x.keepers(0), 1);
        x.back(1);
        x.reading(0, 4, 0);
        Desk.due("all but HOUSE 2", x.keepers(0), 11);
        Desk.due("KEEPER as it was", x.ofGlass(0, 4), 1);
        Desk.due("keepers 4", x.keepers(4), -1);
        Desk.due("keepers -1", x.keepers(-1), -1);
    }

    /** READINGS of other GLASSES bind, too; what is not asked of is as it is. */
    private static void readingsOfAll() {
        SandKeepers x = Desk.seen(FOUR);
        x.reading(1, 1, 9);
        Desk.due("another one's is so", x.necks(0), 1023);
        x.reading(3, 5, 29);
        Desk.due("another one's is not so", x.necks(0), 0);
        Desk.due("another one's is not so", x.kinds(0), 0);
        Desk.due("another one's is not so", x.keepers(0), 0);
        x.back(1);
        x.reading(1, 2, 6);
        x.reading(1, 3, 3);
        Desk.due("several of one", x.necks(1), 2);
        x.reading(1, 3, 2);
        Desk.due("not all", x.necks(1), 0);
    }

    private static void readingsOfNow() {
        SandKeepers x = Desk.seen(FOUR);
        x.reading(0, 1, 6);
        Desk.due("10 to 6", x.necks(0), 4);
        x.go(1);
        Desk.due("6 to 6: RATE 0, but HEAT is 2", x.necks(0), 0);
        x.warm(1, 0);
        Desk.due("with HEAT 0", x.necks(0), 1);
        x.lay(0);
        Desk.due("LAID", x.necks(0), 1023);
        Desk.due("LAID", x.kinds(0), 7);
        Desk.due("LAID", x.keepers(0), 15);
        x.back(1);
        x.reading(0, 99, 6);
        Desk.due("LAID for 99 YEARS", x.necks(0), 1023);
        x.raise(0);
        Desk.due("RAISED: NECK 0 alone", x.necks(0), 1);
    }

    private static void share(SandKeepers x, int k, int y, long upper, long lower) {
        Desk.due("odds " + k + " " + y + " upper", x.odds(k, y, 0), upper);
        Desk.due("odds " + k + " " + y + " lower", x.odds(k, y, 1), lower);
    }

    private static void odds() {
        SandKeepers x = Desk.seen(FOUR);
        // GLASS 0 by HOUSE 1, 2, 3: RATE 4, 2, 5, LIFE 3, 5, 2.
        share(x, 0, 0, 1, 1);
        share(x, 0, 2, 1, 1);
        share(x, 0, 3, 2, 3);
        share(x, 0, 4, 1, 3);
        share(x, 0, 5, 1, 3);
        share(x, 0, 6, 0, 1);
        share(x, 0, 99, 0, 1);
        x.lay(0);
        share(x, 0, 99, 1, 1);
        x.go(4);
        share(x, 1, 0, 1, 1);
        share(x, 1, 1, 0, 1);
        Desk.due("odds 4", x.odds(4, 0, 0), Long.MIN_VALUE);
        Desk.due("odds -1", x.odds(-1, 0, 0), Long.MIN_VALUE);
        Desk.due("y -1", x.odds(0, -1, 0), Long.MIN_VALUE);
        Desk.due("y 100", x.odds(0, 100, 0), Long.MIN_VALUE);
        Desk.due("which -1", x.odds(0, 0, -1), Long.MIN_VALUE);
        Desk.due("which 2", x.odds(0, 0, 2), Long.MIN_VALUE);
        SandKeepers two = Desk.seen("s2;p10130;p10100");
        share(two, 0, 10, 1, 1);
        share(two, 1, 10, 0, 1);
    }

    private static void oddsOfSix() {
        SandKeepers x = Desk.seen("s5;p60100;p60100;p60100;p60130;p60130");
        // GLASS 0 by HOUSE 1 .. 4: RATE 1, 1, 4, 4.
        share(x, 0, 60, 1, 2);
        share(x, 0, 15, 1, 1);
        share(x, 3, 60, 3, 4);
        SandKeepers six = Desk.seen("s6;p60100;p60100;p60100;p60130;p60130;p60130");
        share(six, 0, 60, 2, 5);
        share(six, 5, 60, 3, 5);
    }
}
