/** Promises 1 to 8: a new object, the see. */
public final class SeeTests {
    /** Rates 4 (2 + 2), 3 (1 + 1 + 1), 3 (half of 4 + 2 + 1), 0; SAND 10, 12, 9, 30. */
    static final String FOUR = "s4;p10211;w12120;c09401;p30032";

    public static void main(String[] args) {
        aNewObject();
        seeTakesTexts();
        seeTellsFirstFaults();
        seeRefuses();
        seeMakesAllAnew();
        aLesserSee();
        ofGlass();
        rates();
        keeps();
        chafe();
        warm();
        give();
        alive();
        Desk.end();
    }

    private static void aNewObject() {
        SandKeepers x = new SandKeepers();
        for (int what = 0; what < 4; what++) {
            Desk.due("new: many " + what, x.many(what), 0);
        }
        Desk.due("new: fault", x.fault(), 0);
        Desk.due("new: trace", x.trace(), 0);
        for (int k = 0; k < 6; k++) {
            Desk.due("new: ofGlass", x.ofGlass(k, 0), -1);
            Desk.due("new: keeps", x.keeps(k), -1);
            Desk.due("new: chafe", x.chafe(k, 0), -1);
            Desk.due("new: warm", x.warm(k, 0), -1);
            Desk.due("new: give", x.give(k, k), -1);
            Desk.due("new: lay", x.lay(k), -1);
            Desk.due("new: raise", x.raise(k), -1);
            Desk.due("new: turn", x.turn(k), -1);
            Desk.due("new: life", x.life(k), -1);
            Desk.due("new: ring", x.ring(k), -1);
            Desk.due("new: reach", x.reach(k, k), -1);
            Desk.due("new: reading", x.reading(k, 0, 0), -1);
            Desk.due("new: necks", x.necks(k), -1);
            Desk.due("new: kinds", x.kinds(k), -1);
            Desk.due("new: keepers", x.keepers(k), -1);
            Desk.due("new: odds", x.odds(k, 0, 0), Long.MIN_VALUE);
            Desk.due("new: tell", x.tell(k), -1);
            Desk.due("new: dust", x.dust(k), -1);
            Desk.due("new: as", x.as(k, 0), -1);
        }
        for (int k = 0; k < 4; k++) {
            Desk.due("new: see", x.see(k, 0, 0, 0), -11);
            Desk.due("new: put", x.put(k, 0, 0), -11);
            Desk.due("new: lose", x.lose(k), 0);
        }
        Desk.due("new: back(0)", x.back(0), 0);
        Desk.due("new: back(1)", x.back(1), -2);
        Desk.due("UNKNOWN", SandKeepers.UNKNOWN, -1);
        Desk.due("OUTSIDE", SandKeepers.OUTSIDE, -2);
        Desk.due("STATE", SandKeepers.STATE, -3);
        Desk.due("FULL", SandKeepers.FULL, -4);
        Desk.due("NONE", SandKeepers.NONE, -9);
        Desk.due("LOST", SandKeepers.LOST, Long.MIN_VALUE);
    }

    private static void seeTakesTexts() {
        SandKeepers x = new SandKeepers();
        String text = "s";
        for (int houses = 2; houses <= 6; houses++) {
            StringBuilder all = new StringBuilder("s").append(houses);
            for (int k = 0; k < houses; k++) {
                all.append(";").append("pwc".charAt(k % 3)).append(99 - k).append(9 - k).append(k % 4).append(k);
            }
            text = all.toString();
            Desk.due("see " + text, Desk.see(x, text), houses);
            Desk.due("many(0)", x.many(0), houses);
            Desk.due("last SAND", x.ofGlass(houses - 1, 1), 100 - houses);
            Desk.due("no GLASS more", x.ofGlass(houses, 1), -1);
        }
        for (int lane = 0; lane < 3; lane++) {
            Desk.write(x, 1, lane, Desk.codes("??" + FOUR + "!"));
            Desk.due("see in LANE " + lane, x.see(1, lane, 2, FOUR.length()), 4);
            Desk.due("see at the end", x.see(1, lane, 2, FOUR.length() + 1), -100 - FOUR.length());
        }
        Desk.due("SAND 01", Desk.see(x, "s2;p01000;p10000"), 2);
        Desk.due("its SAND", x.ofGlass(0, 1), 1);
        Desk.due("SAND 10", x.ofGlass(1, 1), 10);
    }

    /** At each place of a TEXT each code that can't stand there is told, and the TEXT as too short. */
    private static void seeTellsFirstFaults() {
        String text = "s2;p11001;c99931";
        String[] fit = {"s", "23456", ";", "pwc", "0123456789", "0123456789", "0123456789", "0123", "01",
            ";", "pwc", "0123456789", "0123456789", "0123456789", "0123", "01"};
        for (int place = 0; place < text.length(); place++) {
            for (int code = -130; code < 300; code++) {
                SandKeepers y = new SandKeepers();
                Desk.write(y, 1, 2, Desk.codes(text));
                Desk.due("ends at " + place, y.see(1, 2, 0, place), -100 - place);
                y.put(1, place, code);
                boolean fits = code > 0 && code < 128 && fit[place].indexOf(code) >= 0;
                int want = 2;
                if (!fits) {
                    want = -100 - place;
                } else if (place == 1 && code != '2') {
                    want = -116;
                }
                Desk.due("code " + code + " at " + place, y.see(1, 2, 0, 16), want);
            }
        }
        SandKeepers x = new SandKeepers();
        Desk.due("SAND 00", Desk.see(x, "s2;p00001;p10001"), -105);
        Desk.due("SAND 0", Desk.see(x, "s2;p0"), -105);
        Desk.due("SAND 0 and no digit", Desk.see(x, "s2;p0;"), -105);
        Desk.due("behind the last HOUSE", Desk.see(x, text + ";"), -116);
        Desk.due("behind the last of 6", Desk.see(x, "s6;p10000;p10000;p10000;p10000;p10000;p10005s"), -144);
        Desk.due("KEEPER 6 of 6", Desk.see(x, "s6;p10006"), -108);
        Desk.due("KEEPER 2 of 2", Desk.see(x, "s2;p10002"), -108);
        Desk.due("nothing told", Desk.see(x, ""), -100);
        Desk.due("1 HOUSE", Desk.see(x, "s1"), -101);
        Desk.due("7 HOUSES", Desk.see(x, "s7"), -101);
        Desk.write(x, 1, 2, Desk.codes("s2;p10001;c9993"));
        x.put(1, 0, 's' + 256);
        Desk.due("a code above 255", x.see(1, 2, 0, 15), -100);
        for (int lane = 0; lane < 3; lane++) {
            Desk.write(x, 1, lane, Desk.codes(text));
            x.put(1, 0, 's' + 256);
            Desk.due("cut to a byte it is an s", x.see(1, lane, 0, 16), lane == 0 ? 2 : -100);
            x.put(1, 0, 's' - 65536);
            Desk.due("cut to a short it is an s", x.see(1, lane, 0, 16), lane < 2 ? 2 : -100);
        }
    }

    private static void seeRefuses() {
        SandKeepers x = Desk.seen(FOUR);
        Desk.due("SHEET -1", x.see(-1, 7, 0, 0), -1);
        Desk.due("SHEET 4", x.see(4, 0, 0, 0), -1);
        Desk.due("LANE -1", x.see(3, -1, 0, 0), -2);
        Desk.due("LANE 3", x.see(3, 3, 0, 0), -2);
        Desk.due("OUTSIDE ahead of NULL", x.see(0, 3, 0, 0), -2);
        Desk.due("fault of a refused one", x.fault(), 0);
        Desk.due("nothing is no CAST", x.see(0, 1, -1, -1), -11);
        Desk.due("fault NULL", x.fault(), 1);
        Desk.due("CAST ahead of SIZE", x.see(3, 1, -1, -1), -12);
        Desk.due("fault CAST", x.fault(), 2);
        Desk.due("SIZE ahead of INDEX", x.see(3, 0, -1, -1), -14);
        Desk.due("fault SIZE", x.fault(), 4);
        Desk.due("SIZE least", x.see(3, 0, 0, Integer.MIN_VALUE), -14);
        int size = FOUR.length();
        Desk.due("i -1", x.see(3, 0, -1, 0), -13);
        Desk.due("fault INDEX", x.fault(), 3);
        Desk.due("i at the end", x.see(3, 0, size, 0), -100);
        Desk.due("fault of a TEXT not taken", x.fault(), 0);
        Desk.due("i beyond the end", x.see(3, 0, size + 1, 0), -13);
        Desk.due("n beyond", x.see(3, 0, 0, size + 1), -13);
        Desk.due("n far beyond", x.see(3, 0, 1, Integer.MAX_VALUE), -13);
        Desk.due("i far beyond", x.see(3, 0, Integer.MAX_VALUE, Integer.MAX_VALUE), -13);
        Desk.due("i least", x.see(3, 0, Integer.MIN_VALUE, 1), -13);
        Desk.due("INDEX ahead of the TEXT", x.see(3, 0, 1, size), -13);
        Desk.due("nothing changed", x.many(0), 4);
        Desk.due("nothing changed", x.ofGlass(3, 1), 30);
    }

    private static void seeMakesAllAnew() {
        SandKeepers x = Desk.seen(FOUR);
        x.lay(3);
        x.go(2);
        x.reading(0, 0, 0);
        x.tell(0);
        Desk.write(x, 1, 1, 5);
        Desk.due("a TEXT not taken", Desk.see(x, "s2;p10001;p1000"), -115);
        Desk.due("keeps YEAR", x.many(2), 2);
        Desk.due("keeps READINGS", x.many(3), 1);
        Desk.due("keeps SAND", x.ofGlass(0, 1), 2);
        Desk.due("keeps LAID", x.ofGlass(3, 6), 1);
        Desk.due("a TEXT taken", Desk.see(x, FOUR), 4);
        Desk.due("YEAR 0", x.many(2), 0);
        Desk.due("no READINGS", x.many(3), 0);
        Desk.due("SAND is FULL", x.ofGlass(0, 1), 10);
        Desk.due("none is LAID", x.ofGlass(3, 6), 0);
        Desk.due("TRACE stays", x.trace(), 1);
        Desk.due("SHEETS stay", x.cell(1, 0, 1), 5);
    }

    /** What was in the HOUSES of a greater SEE does not shine through a lesser one. */
    private static void aLesserSee() {
        SandKeepers x = Desk.seen("s6;p20110;p20111;p20112;p20113;p20114;p05115");
        Desk.due("all 6 ALIVE", x.alive(0), 63);
        Desk.due("first of 6", x.first(0), 5);
        Desk.due("keeping of 6", x.keeping(-1), 5 * 10 + 3);
        Desk.due("trade of 6", x.trade(0), -9);
        Desk.due("keeps of 6", x.keeps(5), 32);
        Desk.due("found of 6", Desk.found(x, 20), 31);
        x.lay(5);
        x.lay(2);
        Desk.due("STIFF of 6", x.alive(1), 36);
        Desk.due("a lesser one", Desk.see(x, "s2;p30110;p20111"), 2);
        Desk.due("2 ALIVE", x.alive(0), 3);
        Desk.due("many ALIVE", x.many(1), 2);
        Desk.due("STIFF of 2", x.alive(1), 0);
        Desk.due("first of 2", x.first(0), 1);
        Desk.due("keeping of 2", x.keeping(-1), 15 + 10);
        Desk.due("trade of 2", x.trade(0), -9);
        Desk.due("found of 2", Desk.found(x, 20), 2);
        Desk.due("no HOUSE 2", x.keeping(2), -9);
        Desk.due("no GLASS 2", Desk.told(x, 12), -9);
        Desk.due("none died behind it", x.go(10), 1);
        x.give(0, 1);
        x.give(1, 0);
        Desk.due("keeps of 2", x.keeps(1), 1);
        Desk.due("no GLASS 2", x.life(2), -1);
    }

    private static void ofGlass() {
        SandKeepers x = Desk.seen(FOUR);
        int[][] due = {{0, 10, 2, 1, 1, 4, 0, 10}, {1, 12, 1, 2, 0, 3, 0, 12}, {2, 9, 4, 0, 1, 3, 0, 9},
            {0, 30, 0, 3, 2, 0, 0, 30}};
        for (int k = 0; k < 4; k++) {
            for (int what = 0; what < 8; what++) {
                Desk.due("ofGlass " + k + " " + what, x.ofGlass(k, what), due[k][what]);
            }
            Desk.due("ofGlass what -1", x.ofGlass(k, -1), -2);
            Desk.due("ofGlass what 8", x.ofGlass(k, 8), -2);
        }
        Desk.due("ofGlass -1", x.ofGlass(-1, 9), -1);
        Desk.due("ofGlass 4", x.ofGlass(4, 9), -1);
        x.go(1);
        x.lay(0);
        Desk.due("SAND less", x.ofGlass(0, 1), 6);
        Desk.due("FULL stays", x.ofGlass(0, 7), 10);
        Desk.due("LAID", x.ofGlass(0, 6), 1);
        Desk.due("RATE though LAID", x.ofGlass(0, 5), 4);
    }

    private static void rates() {
        for (int neck = 0; neck < 10; neck++) {
            for (int heat = 0; heat < 4; heat++) {
                String part = "50" + neck + "01";
                SandKeepers x = Desk.seen("s4;p" + part + ";w5000" + "0" + ";c" + part + ";w" + part);
                x.warm(1, heat);
                Desk.due("PLAIN RATE", x.ofGlass(0, 5), neck + heat);
                Desk.due("WIDE RATE", x.ofGlass(3, 5), neck + heat + 1);
                Desk.due("CRACKED RATE", x.ofGlass(2, 5), (neck + heat + 1) / 2);
                Desk.due("RATE by the KEEPER's HEAT", x.ofGlass(1, 5), 1);
            }
        }
    }

    private static void keeps() {
        SandKeepers x = Desk.seen(FOUR);
        Desk.due("keeps 0", x.keeps(0), 2);
        Desk.due("keeps 1", x.keeps(1), 5);
        Desk.due("keeps 2", x.keeps(2), 8);
        Desk.due("keeps 3", x.keeps(3), 0);
        Desk.due("keeps 4", x.keeps(4), -1);
        Desk.due("keeps -1", x.keeps(-1), -1);
    }

    private static void chafe() {
        SandKeepers x = Desk.seen(FOUR);
        Desk.due("chafe", x.chafe(0, 9), 2);
        Desk.due("NECK", x.ofGlass(0, 2), 9);
        Desk.due("chafe 0", x.chafe(0, 0), 9);
        Desk.due("NECK 0", x.ofGlass(0, 2), 0);
        Desk.due("chafe -1", x.chafe(0, -1), -2);
        Desk.due("chafe 10", x.chafe(0, 10), -2);
        Desk.due("chafe GLASS 4", x.chafe(4, 10), -1);
        Desk.due("chafe GLASS -1", x.chafe(-1, 0), -1);
        Desk.due("NECK still 0", x.ofGlass(0, 2), 0);
        Desk.due("another NECK", x.ofGlass(1, 2), 1);
    }

    private static void warm() {
        SandKeepers x = Desk.seen(FOUR);
        Desk.due("warm", x.warm(1, 0), 2);
        Desk.due("warm again", x.warm(1, 3), 0);
        Desk.due("HEAT", x.ofGlass(1, 3), 3);
        Desk.due("RATE of the kept", x.ofGlass(0, 5), 5);
        Desk.due("warm -1", x.warm(1, -1), -2);
        Desk.due("warm 4", x.warm(1, 4), -2);
        Desk.due("warm HOUSE 4", x.warm(4, 4), -1);
        Desk.due("warm HOUSE -1", x.warm(-1, 0), -1);
        Desk.due("HEAT still", x.ofGlass(1, 3), 3);
    }

    private static void give() {
        SandKeepers x = Desk.seen(FOUR);
        Desk.due("give", x.give(0, 3), 1);
        Desk.due("KEEPER", x.ofGlass(0, 4), 3);
        Desk.due("keeps", x.keeps(3), 1);
        Desk.due("keeps no longer", x.keeps(1), 4);
        Desk.due("give to oneself", x.give(0, 0), 3);
        Desk.due("one's own KEEPER", x.keeps(0), 3);
        Desk.due("give GLASS 4", x.give(4, 0), -1);
        Desk.due("give GLASS -1", x.give(-1, 0), -1);
        Desk.due("give to 4", x.give(0, 4), -1);
        Desk.due("give to -1", x.give(0, -1), -1);
        Desk.due("KEEPER still", x.ofGlass(0, 4), 0);
    }

    private static void alive() {
        SandKeepers none = new SandKeepers();
        Desk.due("alive without a SEE", none.alive(0), -3);
        Desk.due("STATE ahead of OUTSIDE", none.alive(2), -3);
        SandKeepers x = Desk.seen(FOUR);
        Desk.due("all ALIVE", x.alive(0), 15);
        Desk.due("none STIFF", x.alive(1), 0);
        Desk.due("alive -1", x.alive(-1), -2);
        Desk.due("alive 2", x.alive(2), -2);
        x.lay(3);
        x.lay(0);
        Desk.due("STIFF", x.alive(1), 9);
        Desk.due("STIFF ones are ALIVE", x.alive(0), 15);
        x.go(3);
        Desk.due("2 no longer", x.alive(0), 11);
        Desk.due("STIFF still", x.alive(1), 9);
    }
}
